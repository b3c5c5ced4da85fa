/** The boundaries of the built-in ones but for strands (promise 3). */
final class LibraryBoundaryTest {
    private static final Bench BENCH = new Bench("LibraryBoundaryTest");
    private static final String MOST = "9223372036854775807";
    private static final String LEAST = "-9223372036854775807 - 1";
    private static final String[] VALUES = {"nil", "true", "1", "'a'", "{}", "print", "create(function() end)", "wrap(function() end)"};

    public static void main(String[] args) {
        allGlobals();
        missingArguments();
        wrongFirstArguments();
        wrongOtherArguments();
        printing();
        types();
        tostringSteps();
        tonumberEdges();
        rawOnes();
        metaTables();
        rows();
        nextInRows();
        iterators();
        assertions();
        protectedCalls();
        selecting();
        unpacking();
        subEdges();
        byteAndChar();
        repEdges();
        joinEdges();
        concatEdges();
        insertEdges();
        removeEdges();
        BENCH.finish();
    }

    /** A protected call of this, with its arguments, writes this. */
    private static void tries(String arguments, String want) {
        BENCH.writes("print(pcall(" + arguments + "))", want + "\n");
    }

    private static void bad(String arguments) {
        tries(arguments, "false bad value");
    }

    private static void allGlobals() {
        String names = "print type tostring tonumber rawget rawset rawequal rawlen setmetatable getmetatable next pairs ipairs error assert pcall select unpack sub byte char rep concat insert remove create resume yield wrap status running count";
        for (String name : names.split(" ")) {
            BENCH.writes("print(type(" + name + "), " + name + " == " + name + ", tostring(" + name + "))", "function true function\n");
            BENCH.writes("local p = print " + name + " = 5 p(" + name + ")", "5\n");
        }
        BENCH.writes("print(self, _G, string, table, coroutine, math, arg, _ENV)", "nil nil nil nil nil nil nil nil\n");
    }

    private static void missingArguments() {
        String[] fine = {"type:nil", "tostring:nil", "tonumber:nil", "rawequal:true", "getmetatable:nil", "running:nil", "print:", "char:"};
        for (String pair : fine) {
            String name = pair.split(":", 2)[0];
            String want = pair.split(":", 2)[1];
            BENCH.writes("print(pcall(" + name + "))", (name.equals("print") ? "\n" : "") + "true" + (name.equals("print") ? "" : " " + want) + "\n");
        }
        String[] wrong = {"rawget", "rawset", "rawlen", "setmetatable", "next", "pairs", "ipairs", "select", "unpack", "sub", "byte", "rep", "concat", "insert", "remove", "create", "resume", "wrap", "status"};
        for (String name : wrong) {
            bad(name);
        }
        // Nothing of an earlier call's arguments is there.
        BENCH.writes("tostring(5) local x = tostring() print(x) type({}) x = type() print(x) tonumber('7') x = tonumber() print(x)", "nil\nnil\nnil\n");
        BENCH.fails("local s = create(function() print('on') yield() print('no') end) resume(s) resume()", "on\n! bad value\n");
        tries("error", "false nil");
        tries("assert", "false assertion failed");
        tries("pcall", "true false no call");
        tries("rawget, {}", "true nil");
        tries("rawset, {}", "false nil key");
        tries("rawequal, nil", "true true");
        tries("rawequal, 1", "true false");
        tries("setmetatable, {}", "true table");
        tries("next, {}", "true nil");
        tries("sub, 'abc', 2", "true bc");
        tries("byte, 'abc'", "true 97");
        tries("concat, {}", "true ");
        tries("remove, {}", "true nil");
        tries("unpack, {}", "true");
    }

    /** All but those that may be there: what each takes as its first argument. */
    private static void wrongFirstArguments() {
        String[] takes = {"rawget:{}", "rawset:{}", "rawlen:{} 'a'", "setmetatable:{}", "next:{}", "pairs:{}", "ipairs:{}", "unpack:{}", "concat:{}", "remove:{}", "insert:{}",
            "sub:'a'", "byte:'a'", "rep:'a'", "char:1", "select:1", "resume:create(function()", "status:create(function()", "create:", "wrap:"};
        for (String pair : takes) {
            String name = pair.split(":")[0];
            String right = pair.endsWith(":") ? "" : pair.split(":")[1];
            for (String value : VALUES) {
                boolean fits = !right.isEmpty() && (" " + right + " ").contains(" " + value.split(" ")[0] + " ");
                String others = name.equals("sub") || name.equals("rep") || name.equals("rawget") || name.equals("rawset") ? ", 1, 1" : name.equals("insert") ? ", 1" : "";
                BENCH.same("fault", BENCH.run("print(pcall(" + name + ", " + value + others + "))", 500), 0);
                String got = BENCH.fetched();
                BENCH.same(name + " of " + value + " is refused, if 1: " + got, got.equals("false bad value\n") ? 1 : 0, fits ? 0 : 1);
            }
        }
        BENCH.writes("print(type(create(function() end)), type(wrap(function() end)))", "strand function\n");
    }

    private static void wrongOtherArguments() {
        for (String value : new String[] {"true", "1", "'a'", "print", "create(function() end)"}) {
            bad("setmetatable, {}, " + value);
        }
        for (String value : new String[] {"nil", "true", "'1'", "{}", "print"}) {
            bad("sub, 'abc', " + value);
            bad("rep, 'abc', " + value);
            bad("char, 65, " + value);
            bad("insert, {}, " + value + ", 1");
        }
        for (String value : new String[] {"true", "'1'", "{}", "print"}) {
            bad("sub, 'abc', 1, " + value);
            bad("byte, 'abc', " + value);
            bad("unpack, {}, " + value);
            bad("unpack, {}, 1, " + value);
            bad("remove, {1}, " + value);
            bad("remove, {}, " + value);
        }
        for (String value : new String[] {"true", "1", "{}", "print"}) {
            bad("concat, {}, " + value);
        }
        // Numbers are no strings here, nor strings numbers.
        bad("sub, 123, 1");
        bad("byte, 1");
        bad("rep, 1, 2");
        bad("rawlen, 1");
        bad("select, '1', 2");
        // The first wrong one of several is as wrong.
        bad("rawset, 1, nil, 2");
        bad("insert, 1, 2, 3, 4");
    }

    private static void printing() {
        BENCH.writes("print()", "\n");
        BENCH.writes("print(nil)", "nil\n");
        BENCH.writes("print('')", "\n");
        BENCH.writes("print('', '')", " \n");
        BENCH.writes("print(nil, nil)", "nil nil\n");
        BENCH.writes("print(0, -1, " + MOST + ", " + LEAST + ", 1000, 10, 99, 100)", "0 -1 9223372036854775807 -9223372036854775808 1000 10 99 100\n");
        BENCH.writes("print('a\\nb', 'c\\0d')", "a\nb c\0d\n");
        BENCH.writes("print(true, false, {}, print, function() end, create(function() end), wrap(function() end))", "true false table function function strand function\n");
        BENCH.writes("print(select('#', print()))", "\n0\n");
        BENCH.writes("print(unpack({}, 1, 40))", "nil" + Bench.times(" nil", 39) + "\n");
        BENCH.writes("print(setmetatable({}, {__tostring = function() return 'x' end}))", "table\n");
    }

    private static void types() {
        BENCH.writes("print(type(nil), type(false), type(0), type(''), type({}), type(print), type(create(function() end)), type(wrap(function() end)))", "nil boolean number string table function strand function\n");
        BENCH.writes("print(select('#', type(1, 2, 3)), type(nil, 1), type(ipairs({})))", "1 nil function\n");
    }

    private static void tostringSteps() {
        // Each table's "__tostring" is a table that calls tostring with itself, and so asks the next one.
        String chain = "local t = setmetatable({}, {__tostring = function() return 'end' end}) for i = 2, %d do t = setmetatable({}, {__tostring = setmetatable({}, {__call = tostring, __tostring = getmetatable(t).__tostring})}) end print(pcall(tostring, t))";
        BENCH.writes(chain.replace("%d", "9"), "true end\n");
        BENCH.writes(chain.replace("%d", "10"), "true end\n");
        BENCH.writes(chain.replace("%d", "11"), "false too deep\n");
        BENCH.writes(chain.replace("%d", "20"), "false too deep\n");
        // A procedure's instructions between begin anew.
        String between = "local n = 0 local m = {} m.__tostring = function(t) n = n + 1 if n == %d then return 'end' end return tostring(t) end print(pcall(tostring, setmetatable({}, m)))";
        BENCH.writes(between.replace("%d", "11"), "true end\n");
        BENCH.writes(between.replace("%d", "57"), "true end\n");
        BENCH.writes("local m = {__tostring = tostring} local t = setmetatable({}, m) print(pcall(tostring, t)) m.__tostring = nil print(tostring(t))", "false too deep\ntable\n");
        // All that it gives, whatever it is.
        BENCH.writes("local m = {} local t = setmetatable({}, m) m.__tostring = function() end print(select('#', tostring(t))) m.__tostring = function() return 1, nil, {} end print(tostring(t))", "0\n1 nil table\n");
        BENCH.writes("local m = {__tostring = false} local t = setmetatable({}, m) print(pcall(tostring, t)) m.__tostring = 5 print(pcall(tostring, t))", "false no call\nfalse no call\n");
        BENCH.writes("print(tostring(5) == '5', tostring('5') == '5', tostring(nil), tostring(true), tostring({}), tostring(print), #tostring(" + LEAST + "))", "true true nil true table function 20\n");
        BENCH.writes("print(select('#', tostring(1, 2)), tostring(rep('a', 1000)) == rep('a', 1000))", "1 true\n");
    }

    private static void tonumberEdges() {
        String[] numbers = {"0", "1", "-1", "9", "007", "-007", "-0", "9223372036854775807", "-9223372036854775808", "-9223372036854775807", "00000000000000000000009223372036854775807"};
        for (String number : numbers) {
            BENCH.writes("print(tonumber('" + number + "'))", Long.parseLong(number) + "\n");
        }
        String[] none = {"", "-", "--1", "+1", " 1", "1 ", "1.0", "1e5", "0x1", "a", "1a", "-a", "9223372036854775808", "-9223372036854775809", "9223372036854775810", "10000000000000000000", "18446744073709551617", "1-", "1\\n", "\\0", "1\\0", "/", ":"};
        for (String string : none) {
            BENCH.writes("print(tonumber('" + string + "'))", "nil\n");
        }
        BENCH.writes("print(tonumber(" + MOST + "), tonumber(-5), tonumber(nil), tonumber(true), tonumber({}), tonumber(print), tonumber(rep('9', 1000)), tonumber(rep('0', 1000)))", MOST + " -5 nil nil nil nil nil 0\n");
        BENCH.writes("print(select('#', tonumber('x')), type(tonumber('12')), tonumber('12') + 1)", "1 number 13\n");
    }

    private static void rawOnes() {
        BENCH.writes("print(rawget({}, nil), rawget({5}, 1), rawget({5}, 2), rawget({x = false}, 'x'))", "nil 5 nil false\n");
        tries("rawset, {}, nil, 1", "false nil key");
        tries("rawset, {}, nil, nil", "false nil key");
        BENCH.writes("local t = {} print(rawset(t, 1, 2) == t, t[1], rawset(t, 1, nil) == t, t[1], rawset(t, 'a', nil) == t, next(t))", "true 2 true nil true nil\n");
        BENCH.writes("print(rawlen(''), rawlen('abc'), rawlen({}), rawlen({1, 2}), rawlen(setmetatable({1}, {__len = function() return 9 end})))", "0 3 0 2 1\n");
        BENCH.writes("local m = {__eq = function() return true end} print(rawequal(setmetatable({}, m), setmetatable({}, m)), rawequal(nil, nil), rawequal('a', 'a'), rawequal(1, 2), rawequal(false, nil))", "false true true false false\n");
        BENCH.writes("local t = setmetatable({}, {__index = error, __newindex = error}) print(rawget(t, 1), rawset(t, 1, 5) == t, rawget(t, 1))", "nil true 5\n");
    }

    private static void metaTables() {
        BENCH.writes("local t, m = {}, {} print(getmetatable(t), setmetatable(t, m) == t, getmetatable(t) == m, setmetatable(t, nil) == t, getmetatable(t))", "nil true true true nil\n");
        BENCH.writes("local t = {} setmetatable(t, t) print(getmetatable(t) == t) setmetatable(t) print(getmetatable(t))", "true\nnil\n");
        for (String value : VALUES) {
            BENCH.writes("print(getmetatable(" + value + "))", "nil\n");
        }
    }

    private static void rows() {
        String list = "local function l(t) local s = '' for k in pairs(t) do s = s .. k end return s end ";
        // A key whose value becomes NIL keeps its place until one without a value comes.
        BENCH.writes(list + "local t = {a = 1, b = 2, c = 3} t.b = nil print(l(t), next(t, 'b')) t.a = 5 print(l(t), next(t, 'b')) t.d = 1 print(l(t), pcall(next, t, 'b'))", "ac c 3\nac c 3\nacd false no key\n");
        // Also if that is one of those in the row: it stands at the end then.
        BENCH.writes(list + "local t = {a = 1, b = 2, c = 3} t.a = nil t.b = nil t.a = 7 print(l(t), pcall(next, t, 'b')) print(next(t, 'a'))", "ca false no key\nnil\n");
        // One that is set to NIL and has no value does not come.
        BENCH.writes(list + "local t = {a = 1, b = 2} t.a = nil t.x = nil t.a = nil print(next(t, 'a')) print(pcall(next, t, 'x'))", "b 2\nfalse no key\n");
        BENCH.writes(list + "local t = {} for i = 1, 9 do t[i] = i end for i = 2, 8 do t[i] = nil end t[5] = 0 print(l(t))", "195\n");
        BENCH.writes(list + "local t = {3, 2, 1} t.x, t.y = 1, 2 remove(t) insert(t, 9) print(l(t))", "12yx3\n");
        BENCH.writes(list + "local t = {x = 1} t.x = nil t.x = 2 t.x = nil print(l(t), next(t, 'x')) t.y = 1 print(l(t))", " nil\ny\n");
    }

    private static void nextInRows() {
        BENCH.writes("print(next({})) print(next({}, nil)) print(next({7})) print(next({7}, 1)) print(select('#', next({7}, 1)))", "nil\nnil\n1 7\nnil\n1\n");
        tries("next, {}, 1", "false no key");
        tries("next, {7}, 2", "false no key");
        tries("next, {7}, '1'", "false no key");
        tries("next, {x = 1}, 'y'", "false no key");
        tries("next, {x = 1}, {}", "false no key");
        BENCH.writes("local t = {a = 1, b = 2, c = 3} for k in next, t do t[k] = nil end print(next(t), next(t, 'a'))", "nil nil\n");
        BENCH.writes("local t = {a = 1, b = 2, c = 3} for k in pairs(t) do print(k) t[k] = nil end", "a\nb\nc\n");
        BENCH.writes("local t = {a = 1} for k, v in pairs(t) do t[k] = v + 1 if v == 5 then break end end print(t.a)", "2\n");
        BENCH.fails("local t = {a = 1, b = 2} for k in pairs(t) do t[k] = nil t.x = 1 end", "! no key\n");
        BENCH.writes("print(next(setmetatable({}, {__index = {1}})))", "nil\n");
    }

    private static void iterators() {
        BENCH.writes("local t = {} local f, s, c = pairs(t) print(f == next, s == t, c, select('#', pairs(t)))", "true true nil 3\n");
        BENCH.writes("local t = {} local f, s, c = ipairs(t) print(f == ipairs({}), s == t, c, select('#', ipairs(t)), f == next)", "true true 0 3 false\n");
        BENCH.writes("local f = ipairs({}) print(f({5}, 0)) print(f({5}, 1)) print(f({5, nil, 7}, 2)) print(f({[0] = 1}, -1)) print(select('#', f({}, 0)))", "1 5\nnil\n3 7\n0 1\n1\n");
        BENCH.writes("local f = ipairs({}) print(f({[-9223372036854775807 - 1] = 1}, " + MOST + ")) print(pcall(f)) print(pcall(f, {})) print(pcall(f, {}, '0')) print(pcall(f, 5, 0))", "-9223372036854775808 1\n" + Bench.times("false bad value\n", 4));
        BENCH.writes("for i, v in ipairs({1, 2, nil, 4}) do print(i, v) end for i in ipairs({}) do print(i) end", "1 1\n2 2\n");
        BENCH.writes("for i, v in ipairs(setmetatable({}, {__index = function(t, k) return k end})) do print(i, v) end", "");
        BENCH.writes("next = nil for k, v in pairs({5}) do print(k, v) end", "1 5\n");
    }

    private static void assertions() {
        BENCH.writes("print(assert(1)) print(assert(0, nil)) print(assert('', 2, 3)) print(select('#', assert(true, nil, nil)))", "1\n0 nil\n 2 3\n3\n");
        tries("assert, nil", "false assertion failed");
        tries("assert, false", "false assertion failed");
        tries("assert, nil, nil", "false assertion failed");
        tries("assert, nil, nil, 5", "false assertion failed");
        tries("assert, nil, 'm'", "false m");
        tries("assert, false, false", "false false");
        tries("assert, nil, 0, 1", "false 0");
        tries("error, 1, 2", "false 1");
        tries("error, nil", "false nil");
    }

    private static void protectedCalls() {
        tries("type, 1", "true number");
        tries("nil", "false no call");
        tries("1", "false no call");
        tries("{}", "false no call");
        tries("setmetatable({}, {__call = type}), 1", "true table");
        tries("function(...) return select('#', ...) end", "true 0");
        tries("function(...) return select('#', ...) end, nil", "true 1");
        tries("function() end", "true");
        tries("wrap(function(a) return a end), 5", "true 5");
        tries("pcall, error, 1", "true false 1");
        tries("pcall, pcall, type, 1", "true true true number");
        tries("select, 0", "false bad value");
    }

    private static void selecting() {
        BENCH.writes("print(select('#')) print(select('#', nil)) print(select('#', 1, nil, nil))", "0\n1\n3\n");
        BENCH.writes("print(select(1)) print(select(1, 5)) print(select(2, 5)) print(select(1, 5, 6)) print(select(2, 5, 6)) print(select(3, 5, 6)) print(select(" + MOST + ", 5))", "\n5\n\n5 6\n6\n\n\n");
        bad("select, 0");
        bad("select, 0, 1");
        bad("select, -1, 1");
        bad("select, " + LEAST + ", 1");
        bad("select, '##'");
        bad("select, ''");
        BENCH.writes("print(select('#', unpack({}, 1, 39)), (select(39, unpack({}, 1, 39))))", "39 nil\n");
    }

    private static void unpacking() {
        BENCH.writes("print(unpack({})) print(unpack({5})) print(unpack({5, 6, nil, 8})) print(unpack({5, 6}, 1, 3)) print(unpack({5, 6}, 0)) print(unpack({5, 6}, 3)) print(unpack({5, 6}, 2, 1))", "\n5\n5 6\n5 6 nil\nnil 5 6\n\n\n");
        BENCH.writes("print(unpack({5, 6}, nil, 1)) print(unpack({5, 6}, 2, nil)) print(unpack({5, 6}, -1, 0)) print(unpack({5, 6}, 2, 2))", "5\n6\nnil nil\n6\n");
        tries("unpack, {}, 1, 41", "false too many values");
        tries("unpack, {}, " + LEAST + ", " + MOST, "false too many values");
        tries("unpack, {}, 1, " + MOST, "false too many values");
        tries("unpack, {}, " + LEAST + ", 0", "false too many values");
        tries("unpack, {}, " + LEAST, "false too many values");
        BENCH.writes("print(unpack({}, " + MOST + ", " + MOST + ")) print(unpack({}, " + MOST + ", " + LEAST + ")) print(unpack({}, " + LEAST + ", " + LEAST + "))", "nil\n\nnil\n");
        BENCH.writes("local t = {} for i = 1, 40 do t[i] = i end print(select('#', unpack(t, 2)))", "39\n");
        BENCH.writes("local t = {} for i = 1, 40 do t[i] = i end local a = unpack(t) print(a) t[41] = 41 print(pcall(unpack, t))", "1\nfalse too many values\n");
        BENCH.writes("print(unpack(setmetatable({}, {__index = function() return 1 end, __len = function() return 2 end}), 1, 2))", "nil nil\n");
    }

    private static void subEdges() {
        String[] cases = {"1=abc", "2=bc", "3=c", "4=", "5=", "0=abc", "-1=c", "-3=abc", "-4=abc", "-5=abc", MOST + "=", LEAST + "=abc",
            "1, 3=abc", "1, 4=abc", "1, 1=a", "2, 2=b", "3, 3=c", "1, 0=", "0, 0=", "0, 1=a", "2, 1=", "3, 4=c", "4, 4=", "1, -1=abc", "1, -2=ab", "1, -3=a", "1, -4=", "1, -5=", "-2, -1=bc", "-2, -2=b", "-1, -2=", "-4, -3=a", "-4, -4=",
            "-3, 1=a", "-1, 3=c", "-1, 9=c", "2, nil=bc", "1, " + MOST + "=abc", LEAST + ", " + MOST + "=abc", "1, " + LEAST + "=", MOST + ", " + MOST + "=", LEAST + ", " + LEAST + "="};
        for (String pair : cases) {
            String[] both = pair.split("=", 2);
            BENCH.writes("print(sub('abc', " + both[0] + "))", both[1] + "\n");
        }
        for (String range : new String[] {"1", "0", "-1", "1, 1", "0, 0", "-1, -1", "1, -1"}) {
            BENCH.writes("print(#sub('', " + range + "))", "0\n");
        }
        BENCH.writes("local s = rep('ab', 500) print(#sub(s, 1), #sub(s, 2), #sub(s, 1000), #sub(s, 1001), #sub(s, -1000), #sub(s, -1001), sub(s, 999, 1000), #sub(s, 1, 1000))", "1000 999 1 0 1000 1000 ab 1000\n");
    }

    private static void byteAndChar() {
        BENCH.writes("print(byte('abc'), byte('abc', nil), byte('abc', 1), byte('abc', 3), byte('abc', 4), byte('abc', 0), byte('abc', -1), byte(''), byte('', 1))", "97 97 97 99 nil nil nil nil nil\n");
        BENCH.writes("print(byte('\\0'), byte('\\127'), byte('\\128'), byte('\\255'), byte('a', " + MOST + "), byte('a', " + LEAST + "), byte(rep('a', 1000), 1000), byte(rep('a', 1000), 1001), byte('ab', 4294967297))", "0 127 128 255 nil nil 97 nil nil\n");
        BENCH.writes("print(#char(), char(65), char(65, 66), byte(char(0)), byte(char(255)), #char(unpack({65, 66, 67})))", "0 A AB 0 255 3\n");
        bad("char, -1");
        bad("char, 256");
        bad("char, 65, 256");
        bad("char, 256, 65");
        bad("char, 4294967361");
        bad("char, " + LEAST);
        BENCH.writes("local t = {} for i = 1, 40 do t[i] = 65 end print(char(unpack(t)))", Bench.times("A", 40) + "\n");
    }

    private static void repEdges() {
        BENCH.writes("print(#rep('a', 0), #rep('a', -1), #rep('a', " + LEAST + "), rep('a', 1), rep('ab', 2), #rep('', 0), #rep('', 1), #rep('', " + MOST + "))", "0 0 0 a abab 0 0 0\n");
        BENCH.writes("print(#rep('a', 999), #rep('a', 1000), #rep('abc', 333), #rep('abcdefgh', 125), #rep(rep('a', 1000), 1), #rep(rep('a', 500), 2))", "999 1000 999 1000 1000 1000\n");
        for (String call : new String[] {"'a', 1001", "'abc', 334", "'abcdefgh', 126", "'ab', 501", "rep('a', 1000), 2", "rep('a', 501), 2", "'a', " + MOST, "'ab', 4611686018427387904", "'abcd', 4611686018427387905", "'a', 4294967296"}) {
            tries("rep, " + call, "false too long");
        }
        BENCH.writes("print(#rep(rep('a', 1000), 0), #rep(rep('a', 1000), -5))", "0 0\n");
    }

    private static void joinEdges() {
        BENCH.writes("local s = rep('a', 999) print(#(s .. 'b'), #(s .. ''), #('' .. s), #(s .. 5), #(5 .. s))", "1000 999 999 1000 1000\n");
        BENCH.writes("local s = rep('a', 999) print(pcall(function() return s .. 'bc' end)) print(pcall(function() return s .. 10 end)) print(pcall(function() return -1 .. s end)) print(pcall(function() return s .. s end))", Bench.times("false too long\n", 4));
        BENCH.writes("local s = rep('a', 980) print(#(s .. " + LEAST + ")) print(pcall(function() return s .. 'b' .. (" + LEAST + ") end))", "1000\nfalse too long\n");
        BENCH.writes("print('' .. '' == '', 1 .. '' == '1', 0 .. 0, -1 .. -1)", "true true 00 -1-1\n");
        for (String wrong : new String[] {"nil", "true", "{}", "print"}) {
            BENCH.writes("print(pcall(function() return 'a' .. " + wrong + " end)) print(pcall(function() return (" + wrong + ") .. 1 end))", Bench.times("false no string\n", 2));
        }
    }

    private static void concatEdges() {
        BENCH.writes("print(#concat({}), #concat({}, ','), concat({1}), concat({1}, ','), concat({1, 2}, ','), concat({1, 2}), concat({1, 2}, nil), concat({1, 2}, ''), concat({'a', nil, 'b'}, '-'), concat({'', ''}, '-'))", "0 0 1 1 1,2 12 12 12 a -\n");
        BENCH.writes("local s = rep('a', 500) print(#concat({s, s}), #concat({s, rep('b', 499)}, ','), #concat({rep('b', 250), rep('c', 250)}, s))", "1000 1000 1000\n");
        BENCH.writes("local s = rep('a', 500) print(pcall(concat, {s, s, 'b'})) print(pcall(concat, {s, s}, ',')) print(pcall(concat, {s, 'bcde', 5}, rep('a', 249)))", "false too long\nfalse too long\nfalse too long\n");
        for (String wrong : new String[] {"true", "false", "{}", "print"}) {
            bad("concat, {" + wrong + "}");
            bad("concat, {1, " + wrong + "}");
            bad("concat, {1, " + wrong + ", 2}, ','");
        }
        BENCH.writes("print(concat({1, 2, nil, {}}), concat({[0] = {}, 'a'}), concat(setmetatable({'r'}, {__index = function() return 'm' end, __len = function() return 3 end})))", "12 a r\n");
        BENCH.writes("local t = {} for i = 1, 200 do t[i] = 12345 end print(#concat(t)) t[201] = 1 print(pcall(concat, t))", "1000\nfalse too long\n");
    }

    private static void insertEdges() {
        String list = "local function l(t) local s = '' for i = 1, 6 do s = s .. tostring(t[i]) .. ' ' end return s end ";
        BENCH.writes(list + "local t = {} insert(t, 'a') print(l(t), #t) insert(t, 'b') print(l(t), #t) insert(t, 1, 'c') print(l(t)) insert(t, 4, 'd') print(l(t)) insert(t, 4, 'e') print(l(t))",
                "a nil nil nil nil nil  1\na b nil nil nil nil  2\nc a b nil nil nil \nc a b d nil nil \nc a b e d nil \n");
        bad("insert, {}, 0, 1");
        bad("insert, {}, 2, 1");
        bad("insert, {}, -1, 1");
        bad("insert, {1, 2}, 4, 1");
        bad("insert, {1, 2}, 0, 1");
        bad("insert, {1, 2}, " + MOST + ", 1");
        bad("insert, {1, 2}, " + LEAST + ", 1");
        bad("insert, {1}, 4294967297, 1");
        bad("insert, {}");
        bad("insert, {}, 1, 2, 3");
        bad("insert, {}, nil, 2");
        tries("insert, {}, 1, 1", "true");
        tries("insert, {1, 2}, 3, 1", "true");
        tries("insert, {}, nil", "true");
        tries("insert, {}, 1, nil", "true");
        BENCH.writes(list + "local t = {1, 2} insert(t, nil) print(l(t)) insert(t, 3, nil) print(l(t)) insert(t, 2, nil) print(l(t), #t)", "1 2 nil nil nil nil \n1 2 nil nil nil nil \n1 nil 2 nil nil nil  1\n");
        // Behind the length, however much is there beyond it.
        BENCH.writes(list + "local t = {1, nil, 3, 4} insert(t, 'x') print(l(t)) t = {1, nil, 3, 4} insert(t, 1, 'x') print(l(t))", "1 x 3 4 nil nil \nx 1 3 4 nil nil \n");
        BENCH.writes("local t = {} for i = 1, 60 do insert(t, 1, i) end print(t[1], t[60], #t)", "60 1 60\n");
        BENCH.writes("print(select('#', insert({}, 1)), select('#', insert({}, 1, 1)))", "0 0\n");
        BENCH.writes("local t = setmetatable({}, {__newindex = print, __index = print, __len = print}) insert(t, 1) insert(t, 1, 2) print(rawget(t, 1), rawget(t, 2))", "2 1\n");
    }

    private static void removeEdges() {
        String list = "local function l(t) local s = '' for i = 1, 5 do s = s .. tostring(t[i]) .. ' ' end return s end ";
        BENCH.writes(list + "local t = {'a', 'b', 'c', 'd', 'e'} print(remove(t), l(t)) print(remove(t, 4), l(t)) print(remove(t, 1), l(t)) print(remove(t, 1), l(t)) print(remove(t, 1), l(t))",
                "e a b c d nil \nd a b c nil nil \na b c nil nil nil \nb c nil nil nil nil \nc nil nil nil nil nil \n");
        tries("remove, {}", "true nil");
        tries("remove, {}, nil", "true nil");
        bad("remove, {}, 0");
        bad("remove, {}, 1");
        bad("remove, {1, 2}, 0");
        bad("remove, {1, 2}, 3");
        bad("remove, {1, 2}, -1");
        bad("remove, {1, 2}, " + MOST);
        bad("remove, {1, 2}, " + LEAST);
        bad("remove, {1, 2}, 4294967297");
        BENCH.writes("local t = {} for i = 1, 200 do t[i] = i end print(pcall(remove, t, 'a')) print(pcall(remove, t, {})) print(pcall(insert, t, 'a', 1)) print(#t)", Bench.times("false bad value\n", 3) + "200\n");
        tries("remove, {1, 2}, 2", "true 2");
        tries("remove, {1, 2}, nil", "true 2");
        BENCH.writes(list + "local t = {1, nil, 3} print(remove(t), l(t)) print(remove(t), l(t))", "1 nil nil 3 nil nil \nnil nil nil 3 nil nil \n");
        BENCH.writes("print(select('#', remove({})), select('#', remove({1})), select('#', remove({1}, 1)))", "1 1 1\n");
        BENCH.writes("local t = setmetatable({1, 2}, {__newindex = print, __index = print, __len = print}) print(remove(t, 1), rawget(t, 1), rawget(t, 2))", "1 2 nil\n");
    }
}
