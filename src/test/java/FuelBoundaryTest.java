/** The boundaries of FUEL (promise 3): each thing with just its fuel, and with one less. */
final class FuelBoundaryTest {
    private static final Bench BENCH = new Bench("FuelBoundaryTest");

    public static void main(String[] args) {
        statements();
        rounds();
        roundsOfFors();
        calls();
        callsByMetaTables();
        callsOfStrands();
        lengthsOfStrings();
        stringsThatAreThere();
        noFuelForOthers();
        aheadOfErrors();
        behindTooLongAheadOfMemory();
        placesOfProtectedCalls();
        nothingMoreIsDone();
        BENCH.finish();
    }

    private static void statements() {
        BENCH.burns("", 0);
        BENCH.burns(";", 0);
        BENCH.burns(Bench.times(";", 50), 0);
        BENCH.burns("return", 0);
        BENCH.burns("return 1, {}, 'a', -1;", 0);
        BENCH.burns("x = 1", 1);
        BENCH.burns("x, y, z = 1, 2, 3", 1);
        BENCH.burns("local x", 1);
        BENCH.burns("local x, y = 1, 2", 1);
        BENCH.burns("function f() x = 1 end", 1);
        BENCH.burns("local function f() x = 1 end", 1);
        BENCH.burns("t = {} function t.m() end function t:n() end", 3);
        BENCH.burns("do end", 1);
        BENCH.burns("do ; return end", 1);
        BENCH.burns("do do end end do end", 3);
        BENCH.burns("if nil then x = 1 end", 1);
        BENCH.burns("if 1 then x = 1 end", 2);
        BENCH.burns("if nil then elseif nil then elseif 1 then x = 1 end", 2);
        BENCH.burns("if nil then x = 1 else x = 1 y = 1 end", 3);
        BENCH.burns("x = {1, 2, {3}, y = -4 + 5 * 6} y = #x + x[1] - x[2] z = not x == y and x or y", 3);
        BENCH.burns("local x = function() x = 1 y = 2 end", 1);
        // What has no fuel does not begin.
        BENCH.ends("print(1) print(2)", 2, 4, 0, "1\n");
        BENCH.ends("print(1) print(2)", 3, 4, 0, "1\n");
        BENCH.ends("print(1) print(2)", 4, 0, 0, "1\n2\n");
        BENCH.ends("print(1) return print(2)", 3, 0, 0, "1\n2\n");
        BENCH.ends("print(1) return print(2)", 2, 4, 0, "1\n");
    }

    private static void rounds() {
        BENCH.burns("while nil do end", 2);
        BENCH.burns("local n = 0 while n < 1 do n = n + 1 end", 2 + 2 + 1);
        BENCH.burns("local n = 0 while n < 9 do n = n + 1 end", 2 + 10 + 9);
        BENCH.burns("while 1 do break end", 3);
        BENCH.burns("while 1 do return end", 2);
        BENCH.burns("repeat until 1", 2);
        BENCH.burns("repeat break until nil", 3);
        BENCH.burns("local n = 0 repeat n = n + 1 until n == 9", 2 + 9 + 9);
        // A round's fuel is ahead of its test, and of repeat's block.
        BENCH.ends("while print(1) do end", 2, 4, 0, "");
        BENCH.ends("while print(1) do end", 1, 4, 0, "");
        BENCH.ends("while print(1) do end", 3, 0, 0, "1\n");
        BENCH.ends("repeat print(1) until 1", 1, 4, 0, "");
        BENCH.ends("repeat print(1) until print(2)", 5, 4, 0, "1\n2\n");
        BENCH.ends("repeat print(1) until print(2)", 4, 4, 0, "1\n");
    }

    private static void roundsOfFors() {
        BENCH.burns("for i = 1, 0 do end", 1 + 1);
        BENCH.burns("for i = 1, 1 do end", 1 + 2);
        BENCH.burns("for i = 1, 9 do x = i end", 1 + 10 + 9);
        BENCH.burns("for i = 9, 1, -1 do end", 1 + 10);
        BENCH.burns("for i = 1, 9 do break end", 1 + 1 + 1);
        BENCH.burns("for i = 1, 9 do return end", 1 + 1);
        BENCH.burns("for i = 9223372036854775807, 9223372036854775807 do end", 1 + 2);
        BENCH.burns("for i = -9223372036854775807 - 1, -9223372036854775807 - 1, -1 do end", 1 + 2);
        BENCH.burns("for k in next, {} do end", 1 + 1 + 1);
        BENCH.burns("for k in next, {5} do end", 1 + 2 + 2);
        BENCH.burns("for k in next, {5, 6, 7} do break end", 1 + 1 + 1 + 1);
        BENCH.burns("for k, v in ipairs({5, 6}) do end", 1 + 1 + 3 + 3);
        // The exps are ahead of the first round, its fuel ahead of the call.
        BENCH.ends("for i = print(1), 2 do end", 2, 5, 0, "1\n! no number\n");
        BENCH.ends("for i = 1, 2, 0 do end", 1, 5, 0, "! step is zero\n");
        BENCH.ends("for i = 1, 1 do print(i) end", 2, 4, 0, "");
        BENCH.ends("for k in print do end", 2, 4, 0, "");
        BENCH.ends("for k in print do end", 3, 0, 0, "nil nil\n");
        BENCH.ends("for k in nil do end", 2, 4, 0, "");
        BENCH.ends("for k in nil do end", 3, 5, 0, "! no call\n");
    }

    private static void calls() {
        BENCH.burns("type(1)", 2);
        BENCH.burns("return type(1)", 1);
        BENCH.burns("return type(type(type(1)))", 3);
        BENCH.burns("return (type)(1), type(2), {type(3), x = type(4)}", 4);
        BENCH.burns("local function f() end f()", 3);
        BENCH.burns("local function f() x = 1 end f()", 4);
        BENCH.burns("local function f() return 1 end return f() + f()", 3);
        BENCH.burns("local t = {m = type} t:m()", 3);
        BENCH.burns("t = {} function t:m() end return t:m()", 3);
        BENCH.burns("return pcall(type)", 2);
        BENCH.burns("return pcall(pcall, pcall, type)", 4);
        BENCH.burns("return pcall(error)", 2);
        BENCH.burns("return pcall()", 2);
        BENCH.burns("return pcall(5)", 2);
        BENCH.burns("return pcall(function() end)", 2);
        BENCH.burns("return pcall(function() x = nil + 1 end)", 3);
        BENCH.burns("return nil and type(1), 1 or type(2)", 0);
        BENCH.burns("return select('#', type(1))", 2);
    }

    private static void callsByMetaTables() {
        String[] exps = {"-t", "#t", "t + 1", "t - 1", "t * 1", "t // 1", "t % 1", "t .. 1", "t < t", "t <= t", "t > t", "t >= t", "t == {}", "t ~= {}", "t.x", "1 + t", "{} == t"};
        String meta = "local m = {} for _, k in ipairs({'unm', 'len', 'add', 'sub', 'mul', 'div', 'mod', 'concat'}) do m['__' .. k] = type end m.__lt, m.__le, m.__eq, m.__index, m.__newindex, m.__call, m.__tostring = type, type, type, type, type, type, type local t = setmetatable({}, m) ";
        int before = 1 + (1 + 1 + 9 + 9 + 8) + 1 + (1 + 1);
        for (String exp : exps) {
            BENCH.burns(meta + "return " + exp, before + 1);
        }
        BENCH.burns(meta + "t.x = 1", before + 1 + 1);
        BENCH.burns(meta + "t.x, t.y, t.z = 1", before + 1 + 3);
        BENCH.burns(meta + "function t.f() end", before + 1 + 1);
        BENCH.burns(meta + "return t()", before + 2);
        BENCH.burns(meta + "return pcall(t)", before + 3);
        BENCH.burns(meta + "return tostring(t)", before + 2);
        BENCH.burns(meta + "for k in t do break end", before + 1 + 1 + 2 + 1);
        // What needs no call takes none.
        BENCH.burns(meta + "return t == t, t ~= t, t == 1, rawget(t, 1)", before + 1);
        BENCH.burns("local u = {x = 1} local t = setmetatable({}, {__index = setmetatable({}, {__index = u}), __newindex = u}) t.y = t.x", 2 + 2 + 1);
        // Each step of a chain of calls takes one.
        for (int steps = 1; steps <= 10; steps++) {
            String chain = "local c = type for i = 1, " + steps + " do c = setmetatable({}, {__call = c}) end return c()";
            BENCH.burns(chain, 1 + 1 + (steps + 1) + 2 * steps + steps + 1);
        }
    }

    private static void callsOfStrands() {
        String make = "local s = create(function() yield() yield() end) ";
        BENCH.burns(make, 2);
        BENCH.burns(make + "return resume(s)", 2 + 2 + 2);
        BENCH.burns(make + "resume(s) resume(s)", 2 + 5 + 2 + 2);
        BENCH.burns(make + "resume(s) resume(s) resume(s)", 2 + 5 + 4 + 2);
        BENCH.burns(make + "resume(s) resume(s) resume(s) resume(s)", 2 + 5 + 4 + 2 + 2);
        BENCH.burns("local w = wrap(function() yield() end) w() w()", 2 + 1 + 2 + 2 + 2);
        BENCH.burns("return wrap(type and function() end)()", 3);
        BENCH.burns("return status(create(function() end)), running()", 3);
        BENCH.burns("return resume(create(function() return resume(running()) end))", 1 + 1 + 1 + 2);
    }

    /** An exp that gives a string of n bytes takes so much beside its calls, of n at each edge. */
    private static void lengths(String exp, int calls) {
        int[] sizes = {0, 1, 15, 16, 17, 31, 32, 33, 47, 48, 159, 160};
        for (int n : sizes) {
            String ready = "local s, t = rep('a', " + n + "), {} for i = 1, " + n + " do t[i] = 'b' end ";
            int before = 1 + 1 + n / 16 + 1 + n + 1 + n;
            BENCH.burns(ready + "return " + exp.replace("N", "" + n), before + calls + n / 16);
        }
    }

    private static void lengthsOfStrings() {
        lengths("s .. ''", 0);
        lengths("'' .. s", 0);
        lengths("tostring(s)", 1);
        lengths("sub(s, 1)", 1);
        lengths("sub(s, 1, N)", 1);
        lengths("rep('c', N)", 1);
        lengths("rep(s, 1)", 1);
        lengths("concat(t)", 1);
        lengths("concat({s})", 1);
        for (int n = 0; n <= 40; n++) {
            int edge = n / 16;
            String numbers = "local t = {} for i = 1, " + n + " do t[i] = 65 end return char(unpack(t))";
            BENCH.burns(numbers, 1 + 1 + n + 1 + n + 2 + edge);
        }
        BENCH.burns("return 123456789012345 .. ''", 0);
        BENCH.burns("return 1234567890123456 .. ''", 1);
        BENCH.burns("return tostring(-12345678901234)", 1);
        BENCH.burns("return tostring(-123456789012345)", 2);
        BENCH.burns("return 12345678 .. 1234567", 0);
        BENCH.burns("return 12345678 .. 12345678", 1);
        BENCH.burns("return rep('a', 1000)", 1 + 62);
        BENCH.burns("return rep('a', 999)", 1 + 62);
        BENCH.burns("return rep('a', 991)", 1 + 61);
        // Both signs give a string, from the right.
        BENCH.burns("return '12345678' .. '12345678' .. '1234567890123456'", 1 + 2);
        BENCH.burns("return 'a' .. '123456789012345' .. ''", 1);
    }

    private static void stringsThatAreThere() {
        BENCH.burns("local s = '0123456789abcdef' return s .. ''", 1 + 1);
        BENCH.burns("return tostring('0123456789abcdef')", 1 + 1);
        BENCH.burns("return sub('0123456789abcdef', 1, 16)", 1 + 1);
        BENCH.burns("return 'assertion' .. ' failed', 'division by' .. ' zero', 'too' .. ' deep'", 1 + 1);
        BENCH.burns("local s = rep('a', 32) return rep('a', 32), concat({s})", 1 + 1 + 2 + 1 + 2 + 1 + 2);
    }

    private static void noFuelForOthers() {
        String s = "local s = '0123456789abcdef0123456789abcdef' ";
        BENCH.burns(s + "return s, #s, s == s, s < s, {s}, {[s] = s}", 1);
        BENCH.burns(s + "print(s) type(s) byte(s) tonumber(s) rawlen(s)", 1 + 10);
        BENCH.burns(s + "return assert(s), select(1, s), rawequal(s, s), unpack({s}), pcall(assert, s)", 1 + 6);
        BENCH.burns(s + "local t = setmetatable({}, {__tostring = function() return s end}) return tostring(t)", 1 + 2 + 2);
        BENCH.burns(s + "local t = setmetatable({}, {__concat = function() return s end}) return t .. s", 1 + 2 + 1);
        BENCH.burns(s + "insert({}, s) remove({s}) next({s})", 1 + 6);
        BENCH.burns(s + "resume(create(function() return yield(s) end))", 1 + 1 + 1 + 1 + 1 + 1);
        BENCH.fetched();
        BENCH.ends("error('0123456789abcdef')", 2, 5, 0, "! 0123456789abcdef\n");
    }

    private static void aheadOfErrors() {
        BENCH.ends("return nope()", 0, 4, 0, "");
        BENCH.ends("return nope()", 1, 5, 0, "! no call\n");
        BENCH.ends("return ('a')()", 0, 4, 0, "");
        BENCH.ends("return ({})()", 0, 4, 0, "");
        BENCH.ends("return ({})()", 1, 5, 0, "! no call\n");
        BENCH.ends("return setmetatable({}, {__add = 1}) + 1", 1, 4, 0, "");
        BENCH.ends("return setmetatable({}, {__add = 1}) + 1", 2, 5, 0, "! no call\n");
        BENCH.ends("return setmetatable({}, {__call = 1})()", 2, 4, 0, "");
        BENCH.ends("return setmetatable({}, {__call = 1})()", 3, 5, 0, "! no call\n");
        // The 61st call: the text, and 59 of r, are 60; its fuel is ahead of "too deep".
        String deep = "local function r() return r() end return r()";
        BENCH.ends(deep, 1 + 59, 4, 0, "");
        BENCH.ends(deep, 1 + 60, 5, 0, "! too deep\n");
        BENCH.ends(deep, 1 + 61, 5, 1, "! too deep\n");
        // The 11th "__call" is too deep ahead of its fuel.
        String chain = "local c = type for i = 1, 11 do c = setmetatable({}, {__call = c}) end return c()";
        int before = 1 + 1 + 12 + 22;
        BENCH.ends(chain, before + 10, 4, 0, "");
        BENCH.ends(chain, before + 11, 5, 0, "! too deep\n");
        BENCH.ends(chain, before + 12, 5, 1, "! too deep\n");
        // So is the 11th "__tostring": tostring itself, and ten of them.
        String strings = "return tostring(setmetatable({}, {__tostring = tostring}))";
        BENCH.ends(strings, 1 + 10, 4, 0, "");
        BENCH.ends(strings, 1 + 11, 5, 0, "! too deep\n");
        BENCH.ends(strings, 1 + 12, 5, 1, "! too deep\n");
        // Other errors take no fuel of their own.
        BENCH.ends("return 1 + nil", 0, 5, 0, "! no number\n");
        BENCH.ends("return 1 // 0", 0, 5, 0, "! division by zero\n");
        BENCH.ends("x.y = 1", 1, 5, 0, "! no table\n");
    }

    private static void behindTooLongAheadOfMemory() {
        BENCH.ends("return rep('ab', 501)", 1, 5, 0, "! too long\n");
        BENCH.ends("return rep('ab', 500)", 1 + 61, 4, 61, "");
        BENCH.ends("return rep('ab', 500)", 1 + 62, 0, 0, "");
        BENCH.ends("local s = rep('ab', 500) return s .. 'c'", 2 + 62, 5, 0, "! too long\n");
        BENCH.ends("local s = rep('ab', 500) return concat({s, 'c'})", 2 + 62 + 1, 5, 0, "! too long\n");
        // Of 300 cells 108 and a string's 127 are taken: the next one does not fit.
        BENCH.heap(300);
        BENCH.ends("local s = rep('a', 1000) return rep('b', 1000)", 2 + 62 + 1 + 61, 4, 61, "");
        BENCH.ends("local s = rep('a', 1000) return rep('b', 1000)", 2 + 62 + 1 + 62, 6, 0, "");
        BENCH.ends("local s = rep('a', 1000) return 'b' .. sub(s, 2)", 2 + 62 + 1 + 61, 4, 61, "");
        BENCH.ends("local s = rep('a', 1000) return 'b' .. sub(s, 2)", 2 + 62 + 1 + 62, 6, 0, "");
        BENCH.heap(2000);
    }

    private static void placesOfProtectedCalls() {
        // pcall's place and cells are ahead of the fuel of what it calls.
        String deep = "local function r(n) if n == 0 then return pcall(type) end return r(n - 1) end return r(%d)";
        int fuel = 1 + 59 * 2 + 1;
        BENCH.ends(deep.replace("%d", "58"), fuel, 5, 0, "! too deep\n");
        BENCH.ends(deep.replace("%d", "58"), fuel - 1, 4, 0, "");
        BENCH.ends(deep.replace("%d", "57"), fuel - 2, 4, 0, "");
        BENCH.ends(deep.replace("%d", "57"), fuel - 1, 0, 0, "");
        // 108 cells, two strings of 127 and 58, and 7 that are left.
        BENCH.heap(300);
        String full = "local a, b = rep('a', 1000), rep('b', %d) return pcall(type)";
        int before = 1 + 1 + 62 + 1;
        BENCH.ends(full.replace("%d", "448"), before + 28 + 1, 6, 0, "");
        BENCH.ends(full.replace("%d", "440"), before + 27 + 1, 4, 0, "");
        BENCH.ends(full.replace("%d", "440"), before + 27 + 2, 0, 0, "");
        // The cells of a procedure's call come behind its fuel.
        full = "local a, b = rep('a', 1000), rep('b', %d) return (function() end)()";
        BENCH.ends(full.replace("%d", "432"), before + 27, 4, 0, "");
        BENCH.ends(full.replace("%d", "432"), before + 27 + 1, 6, 0, "");
        BENCH.ends(full.replace("%d", "424"), before + 26 + 1, 0, 0, "");
        BENCH.heap(2000);
    }

    private static void nothingMoreIsDone() {
        BENCH.ends("pcall(function() print(1) while true do end end) print(2)", 50, 4, 0, "1\n");
        BENCH.ends("print(pcall(pcall, function() while true do end end))", 50, 4, 0, "");
        BENCH.ends("local s = create(function() while true do end end) print(resume(s)) print(2)", 50, 4, 0, "");
        BENCH.ends("print(pcall(wrap(function() while true do end end)))", 50, 4, 0, "");
        BENCH.ends("local t = setmetatable({}, {__index = function() while true do end end}) print(pcall(function() return t.x end))", 50, 4, 0, "");
        BENCH.heap(300);
        BENCH.same("MEMORY in a protected call", BENCH.run("pcall(function() print(1) local t = {} while true do t = {t} end end) print(2)", 5000), 6);
        BENCH.same("what was written", BENCH.fetched(), "1\n");
        BENCH.same("MEMORY in a strand", BENCH.run("print(resume(create(function() print(1) local t = {} while true do t = {t} end end))) print(2)", 5000), 6);
        BENCH.same("what was written", BENCH.fetched(), "1\n");
        BENCH.heap(2000);
    }
}
