/** Promise 3: the built-in ones but for strands. */
final class LibraryTest {
    private static final Bench BENCH = new Bench("LibraryTest");

    public static void main(String[] args) {
        writing();
        tostring();
        tonumber();
        raw();
        metaTables();
        iteration();
        errors();
        selecting();
        sub();
        bytes();
        repAndConcat();
        insert();
        remove();
        wrongArguments();
        BENCH.finish();
    }

    private static void writing() {
        BENCH.writes("print() print(nil, true, false, 1, 'a', {}, print, function() end, create(function() end), wrap(function() end))",
                "\nnil true false 1 a table function function strand function\n");
        BENCH.writes("print(type(nil), type(true), type(1), type(''), type({}), type(print), type(function() end), type(create(function() end)), type(wrap(function() end)), type())",
                "nil boolean number string table function function strand function nil\n");
        BENCH.writes("local t = setmetatable({}, {__tostring = function() return 'T' end}) print(t, tostring(t))", "table T\n");
    }

    private static void tostring() {
        BENCH.writes("print(tostring(12) == '12', tostring('a'), tostring(nil), tostring(true), tostring({}), tostring(print), tostring(), #tostring(-1))", "true a nil true table function nil 2\n");
        BENCH.writes("local t = setmetatable({}, {__tostring = function(...) return select('#', ...), 2, nil end}) print(tostring(t, 5))", "1 2 nil\n");
        BENCH.writes("local t = setmetatable({}, {__tostring = function() end}) print(select('#', tostring(t)))", "0\n");
        BENCH.writes("print(pcall(tostring, setmetatable({}, {__tostring = 5})))", "false no call\n");
        BENCH.writes("print(pcall(tostring, setmetatable({}, {__tostring = tostring})))", "false too deep\n");
        String chain = "local t = setmetatable({}, {__tostring = function() return 'end' end}) for i = 2, %d do t = setmetatable({}, {__tostring = setmetatable({}, {__call = function() end, __tostring = 1}), u = t}) getmetatable(t).__tostring = setmetatable({}, {__call = tostring, __tostring = t and getmetatable(getmetatable(t).u).__tostring}) end print(pcall(tostring, t))";
        BENCH.writes(chain.replace("%d", "10"), "true end\n");
        BENCH.writes(chain.replace("%d", "11"), "false too deep\n");
    }

    private static void tonumber() {
        BENCH.writes("print(tonumber(5), tonumber('12'), tonumber('-12'), tonumber('007'), tonumber('-0'))", "5 12 -12 7 0\n");
        BENCH.writes("print(tonumber('9223372036854775807'), tonumber('-9223372036854775808'), tonumber('9223372036854775808'), tonumber('-9223372036854775809'), tonumber('99999999999999999999'))",
                "9223372036854775807 -9223372036854775808 nil nil nil\n");
        BENCH.writes("print(tonumber(''), tonumber('-'), tonumber('+1'), tonumber(' 1'), tonumber('1 '), tonumber('1a'), tonumber('0x10'), tonumber('--1'))", "nil nil nil nil nil nil nil nil\n");
        BENCH.writes("print(tonumber(nil), tonumber({}), tonumber(true), tonumber(), tonumber('00000000000000000000000000001'))", "nil nil nil nil 1\n");
    }

    private static void raw() {
        BENCH.writes("local t = setmetatable({}, {__index = function() return 1 end, __newindex = print, __eq = function() return true end, __len = function() return 9 end}) print(rawget(t, 'x'), rawset(t, 'x', 2) == t, t.x, rawequal(t, {}), rawlen(t), rawlen('abc'), rawget(t), rawget(t, nil))",
                "nil true 2 false 0 3 nil nil\n");
        BENCH.writes("print(pcall(rawset, {}, nil, 1)) print(pcall(rawset, {})) print(pcall(rawlen, 5)) print(pcall(rawget, 'a', 1)) print(pcall(rawset, nil, nil))",
                "false nil key\nfalse nil key\nfalse bad value\nfalse bad value\nfalse bad value\n");
        BENCH.writes("print(rawequal(1, 1), rawequal('a', 'a'), rawequal(1, '1'), rawequal(), rawequal(nil, false))", "true true false true false\n");
    }

    private static void metaTables() {
        BENCH.writes("local t, m = {}, {} print(getmetatable(t), setmetatable(t, m) == t, getmetatable(t) == m, setmetatable(t, nil) == t, getmetatable(t), getmetatable('a'), getmetatable())", "nil true true true nil nil nil\n");
        BENCH.writes("print(pcall(setmetatable, {}, 1)) print(pcall(setmetatable, 1, {})) print(setmetatable({}) ~= nil)", "false bad value\nfalse bad value\ntrue\n");
    }

    private static void iteration() {
        BENCH.writes("local t = {5, x = 6} print(next(t)) print(next(t, 1)) print(next(t, 'x')) print(next({})) print(select('#', next({})))", "1 5\nx 6\nnil\nnil\n1\n");
        BENCH.writes("local t = {5} print(pairs(t) == next, select('#', pairs(t)), select(2, pairs(t)) == t, select(3, pairs(t)))", "true 3 true nil\n");
        BENCH.writes("local f, t, i = ipairs({5, 6, nil, 8}) print(type(f), i, f(t, 0)) print(f(t, 2)) print(f(t, 3)) print(pcall(f, t)) print(pcall(f, 1, 1)) print(f({[-9223372036854775807 - 1] = 'w'}, 9223372036854775807))",
                "function 0 1 5\nnil\n4 8\nfalse bad value\nfalse bad value\n-9223372036854775808 w\n");
        BENCH.writes("for i, v in ipairs(setmetatable({1, 2}, {__index = function() return 3 end})) do print(i, v) end", "1 1\n2 2\n");
        BENCH.writes("print(pcall(next, 1)) print(pcall(next, {}, 1)) print(pcall(pairs)) print(pcall(ipairs, 'a'))", "false bad value\nfalse no key\nfalse bad value\nfalse bad value\n");
    }

    private static void errors() {
        BENCH.writes("print(assert(1, 2, 3)) print(pcall(assert, nil, 'm')) print(pcall(assert, false)) print(pcall(assert)) print(pcall(assert, nil, nil, 1)) print(pcall(assert, nil, false))",
                "1 2 3\nfalse m\nfalse assertion failed\nfalse assertion failed\nfalse assertion failed\nfalse false\n");
        BENCH.writes("print(pcall(print, 1)) print(pcall()) print(pcall(pcall)) print(pcall(function(...) return ... end, 1, nil))", "1\ntrue\nfalse no call\ntrue false no call\ntrue 1 nil\n");
    }

    private static void selecting() {
        BENCH.writes("print(select(1, 'a', 'b')) print(select(2, 'a', 'b')) print(select(3, 'a', 'b')) print(select('#')) print(select('#', nil, nil)) print(select(9223372036854775807, 1))", "a b\nb\n\n0\n2\n\n");
        BENCH.writes("print(pcall(select, 0, 1)) print(pcall(select, -1, 1)) print(pcall(select, '1', 1)) print(pcall(select))", "false bad value\nfalse bad value\nfalse bad value\nfalse bad value\n");
        BENCH.writes("print(unpack({1, 2, 3})) print(unpack({1, 2, 3}, 2)) print(unpack({1, 2, 3}, 2, 2)) print(unpack({}, -1, 1)) print(unpack({1}, 3)) print(unpack({1, 2}, nil, 1))", "1 2 3\n2 3\n2\nnil nil nil\n\n1\n");
        BENCH.writes("print(pcall(unpack, {}, 1, 41)) print(pcall(unpack, {}, -9223372036854775807, 9223372036854775807)) print(select('#', unpack({}, 9223372036854775807, 9223372036854775807)), pcall(unpack, {}, 'a'))", "false too many values\nfalse too many values\n1 false bad value\n");
        BENCH.writes("print(pcall(unpack)) print(pcall(unpack, {}, 1, {})) print(select('#', unpack({}, 1, 0)), (unpack(setmetatable({}, {__index = print}), 1, 1)))", "false bad value\nfalse bad value\n0 nil\n");
    }

    private static void sub() {
        BENCH.writes("print(sub('hello', 2, 3), sub('hello', 2), sub('hello', -3), sub('hello', -3, -2), sub('hello', 0), sub('hello', 0, 2))", "el ello llo ll hello he\n");
        BENCH.writes("print('[' .. sub('hello', 1, 0) .. sub('hello', 6) .. sub('hello', 4, 2) .. sub('hello', 1, -6) .. sub('', 1, 5) .. ']')", "[]\n");
        BENCH.writes("print(sub('hello', -99, 99), sub('hello', -99, -5), sub('hello', 9223372036854775807), sub('hello', -9223372036854775807 - 1, 9223372036854775807), sub('abc', 2, -9223372036854775807 - 1))", "hello h  hello \n");
    }

    private static void bytes() {
        BENCH.writes("print(byte('A'), byte('AB', 2), byte('AB', 3), byte('AB', 0), byte('AB', -1), byte(''), byte('\\255'))", "65 66 nil nil nil nil 255\n");
        BENCH.writes("print(char(72, 105), #char(), char(0) == '\\0', byte(char(255)))", "Hi 0 true 255\n");
        BENCH.writes("print(pcall(char, 256)) print(pcall(char, -1)) print(pcall(char, 65, '66')) print(pcall(char, nil)) print(byte('A', 9223372036854775807))", "false bad value\nfalse bad value\nfalse bad value\nfalse bad value\nnil\n");
    }

    private static void repAndConcat() {
        BENCH.writes("print(rep('ab', 3), #rep('a', 0), #rep('a', -5), #rep('', 9223372036854775807), #rep('ab', 500))", "ababab 0 0 0 1000\n");
        BENCH.writes("print(pcall(rep, 'ab', 501)) print(pcall(rep, 'a', 9223372036854775807)) print(#rep('a', 1000)) print(pcall(rep, 'a', 1001))", "false too long\nfalse too long\n1000\nfalse too long\n");
        BENCH.writes("local s = rep('x', 1000) print(#(s .. ''), pcall(function() return s .. 'y' end)) print(pcall(function() return 1 .. s end))", "1000 false too long\nfalse too long\n");
        BENCH.writes("print(concat({1, 'a', -2}), concat({1, 'a', 2}, ', '), #concat({}), concat({7}, 'x'), concat({1, 2, nil, 4}, '-'))", "1a-2 1, a, 2 0 7 1-2\n");
        BENCH.writes("local s = rep('x', 500) print(#concat({s, s})) print(pcall(concat, {s, s}, ',')) print(pcall(concat, {s, s, s, {}}))", "1000\nfalse too long\nfalse bad value\n");
        BENCH.writes("print(pcall(concat, {{}})) print(pcall(concat, {true})) print(pcall(concat, 'a')) print(pcall(concat, {}, 1))", "false bad value\nfalse bad value\nfalse bad value\nfalse bad value\n");
    }

    private static void insert() {
        BENCH.writes("local t = {} print(select('#', insert(t, 'a'))) insert(t, 'c') insert(t, 2, 'b') insert(t, 4, 'd') insert(t, 1, '0') print(concat(t))", "0\n0abcd\n");
        BENCH.writes("local t = {1, 2} insert(t, nil) print(#t) insert(t, 1, nil) print(t[1], t[2], t[3], #t) insert({}, 1, nil)", "2\nnil 1 2 0\n");
        BENCH.writes("local t = {1} print(pcall(insert, t, 3, 'x')) print(pcall(insert, t, 0, 'x')) print(pcall(insert, t, 'a', 'x')) print(pcall(insert, t)) print(pcall(insert, t, 1, 2, 3)) print(pcall(insert)) print(pcall(insert, 1, 2)) print(#t)",
                "false bad value\nfalse bad value\nfalse bad value\nfalse bad value\nfalse bad value\nfalse bad value\nfalse bad value\n1\n");
        BENCH.writes("local t = setmetatable({}, {__newindex = print, __len = error}) insert(t, 5) print(t[1])", "5\n");
    }

    private static void remove() {
        BENCH.writes("local t = {'a', 'b', 'c', 'd'} print(remove(t), remove(t, 1), concat(t)) print(remove(t, 2), remove(t, 1), remove(t), #t, select('#', remove(t)))", "d a bc\nc b nil 0 1\n");
        BENCH.writes("local t = {1} print(pcall(remove, t, 2)) print(pcall(remove, t, 0)) print(pcall(remove, {}, 1)) print(pcall(remove, {}, 0)) print(pcall(remove, t, 'a')) print(pcall(remove)) print(remove(t, nil))",
                "false bad value\nfalse bad value\nfalse bad value\nfalse bad value\nfalse bad value\nfalse bad value\n1\n");
        BENCH.writes("local t = {1, 2, 3, x = 4} remove(t, 1) for k, v in pairs(t) do print(k, v) end", "1 2\n2 3\nx 4\n");
    }

    private static void wrongArguments() {
        String[] wrong = {"sub", "sub, 'a'", "sub, 1, 1", "sub, 'a', 'b'", "sub, 'a', 1, {}", "byte", "byte, 1", "byte, 'a', 'b'", "rep", "rep, 'a'", "rep, 1, 1", "rep, 'a', '3'",
            "create", "create, print", "create, {}", "wrap, 1", "wrap, wrap(function() end)", "resume", "resume, 1", "status", "status, {}", "concat", "pairs", "ipairs", "next", "rawlen", "insert", "remove", "unpack", "select"};
        for (String call : wrong) {
            BENCH.writes("print(pcall(" + call + "))", "false bad value\n");
        }
    }
}
