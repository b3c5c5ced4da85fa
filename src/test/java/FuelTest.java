/** Promise 3: what takes fuel, and how much; what is left by promise 6. */
final class FuelTest {
    private static final Bench BENCH = new Bench("FuelTest");

    public static void main(String[] args) {
        statements();
        loops();
        calls();
        strings();
        order();
        endOfRuns();
        BENCH.finish();
    }

    private static void statements() {
        BENCH.burns("", 0);
        BENCH.burns(";;;", 0);
        BENCH.burns("return 1", 0);
        BENCH.burns("return {}, function() end", 0);
        BENCH.burns("x = 1", 1);
        BENCH.burns("local x", 1);
        BENCH.burns("local x, y = 1, 2 x = y", 2);
        BENCH.burns("do end", 1);
        BENCH.burns("do x = 1 end", 2);
        BENCH.burns("if x then y = 1 elseif z then y = 2 else y = 3 end", 2);
        BENCH.burns("if x then end", 1);
        BENCH.burns("function f() end", 1);
        BENCH.burns("local function f() end", 1);
        BENCH.burns("x = 1 + 2 * 3 - #'abc' y = not x and x or {1, 2, x = 3}", 2);
    }

    private static void loops() {
        BENCH.burns("while x do end", 2);
        BENCH.burns("while true do break end", 3);
        BENCH.burns("local n = 3 while n > 0 do n = n - 1 end", 1 + 1 + 4 + 3);
        BENCH.burns("repeat until true", 2);
        BENCH.burns("local n = 3 repeat n = n - 1 until n == 0", 1 + 1 + 3 + 3);
        BENCH.burns("for i = 1, 0 do end", 2);
        BENCH.burns("for i = 1, 3 do end", 1 + 4);
        BENCH.burns("for i = 1, 3 do break end", 1 + 1 + 1);
        BENCH.burns("for i = 9223372036854775807, 9223372036854775807 do end", 1 + 2);
        BENCH.burns("for k in next, {} do end", 1 + 2);
        BENCH.burns("for k in next, {1, 2} do end", 1 + 3 + 3);
        BENCH.burns("for k in pairs({1, 2}) do x = k end", 1 + 1 + 3 + 3 + 2);
    }

    private static void calls() {
        BENCH.burns("type(1)", 2);
        BENCH.burns("x = type(type(1))", 3);
        BENCH.burns("local function f() end f()", 1 + 2);
        BENCH.burns("local function f() return f end f()()()", 1 + 4);
        BENCH.burns("pcall(error)", 3);
        BENCH.burns("pcall(nil)", 3);
        BENCH.burns("pcall(pcall, type)", 4);
        BENCH.burns("local t = setmetatable({}, {__call = type}) t()", 2 + 1 + 2);
        BENCH.burns("local t = setmetatable({}, {__index = type, __newindex = type, __add = type}) t.x = t.y + t", 2 + 1 + 3);
        BENCH.burns("local t = setmetatable({}, {__tostring = type}) tostring(t)", 2 + 3);
        BENCH.burns("local s = create(function() yield() end) resume(s) resume(s) resume(s)", 2 + 3 + 2 + 2 + 2);
        BENCH.burns("local w = wrap(function() end) w()", 2 + 3);
        BENCH.burns("local t = setmetatable({}, {__call = setmetatable({}, {__call = type})}) t()", 3 + 1 + 3);
    }

    private static void strings() {
        BENCH.burns("x = '0123456789' .. '01234'", 1);
        BENCH.burns("x = '0123456789' .. '012345'", 2);
        BENCH.burns("x = '0123456789abcdef' x = x .. ''", 3);
        BENCH.burns("tostring('0123456789abcdef')", 3);
        BENCH.burns("tostring(1234567890123456)", 3);
        BENCH.burns("tostring(123456789012345)", 2);
        BENCH.burns("rep('a', 160)", 12);
        BENCH.burns("sub('0123456789abcdef0123456789abcdef', 1, 31)", 3);
        BENCH.burns("char(1, 2, 3, 4, 5, 6, 7, 8, 9, 10)", 2);
        BENCH.burns("char(1, 2, 3, 4, 5, 6, 7, 8, 9, unpack({1, 1, 1, 1, 1, 1, 1}))", 4);
        BENCH.burns("local t = {} for i = 1, 16 do t[i] = 'a' end concat(t)", 1 + 1 + 17 + 16 + 2 + 1);
        BENCH.burns("pcall(rep, 'a', 1001)", 3);
        BENCH.burns("type('0123456789abcdef') print('0123456789abcdef')", 4);
        BENCH.burns("local t = setmetatable({}, {__tostring = function() return '0123456789abcdef' end}) tostring(t)", 2 + 3);
    }

    private static void order() {
        // Fuel goes ahead of "no call" and "too deep", behind "too long".
        BENCH.same("a call of nil without fuel", BENCH.run("nope()", 1), 4);
        BENCH.same("a call of nil", BENCH.run("nope()", 2), 5);
        BENCH.same("fuel left behind no call", BENCH.script().count(0), 0);
        BENCH.fetched();
        BENCH.same("too long without fuel", BENCH.run("local s = '0123456789' return rep(s, 101)", 2), 5);
        BENCH.same("what it writes", BENCH.fetched(), "! too long\n");
        BENCH.same("too little for a string", BENCH.run("return rep('a', 160)", 8), 4);
        BENCH.same("it is not taken", BENCH.script().count(0), 7);
        // The 11th "__call" is too deep ahead of its fuel: 11 are taken.
        String chain = "local c = type for i = 1, 11 do c = setmetatable({}, {__call = c}) end ";
        BENCH.same("a chain's fuel", BENCH.run(chain + "return c()", 1 + 1 + 12 + 22 + 11), 5);
        BENCH.same("left by a chain", BENCH.script().count(0), 0);
        BENCH.same("what the chain writes", BENCH.fetched(), "! too deep\n");
        // tostring, then 10 of "__tostring".
        BENCH.same("tostring's fuel", BENCH.run("return tostring(setmetatable({}, {__tostring = tostring}))", 1 + 1 + 10), 5);
        BENCH.same("left by tostring", BENCH.script().count(0), 0);
        BENCH.same("what tostring writes", BENCH.fetched(), "! too deep\n");
        // A protected call's place is ahead of the fuel of what it calls.
        String deep = "local function r(n) if n == 0 then return pcall(type) end return r(n - 1) end return r(58)";
        BENCH.same("pcall too deep", BENCH.run(deep, 1 + 59 * 2 + 1), 5);
        BENCH.same("its fuel", BENCH.script().count(0), 0);
        BENCH.same("what it writes", BENCH.fetched(), "! too deep\n");
    }

    private static void endOfRuns() {
        BENCH.same("a loop without end", BENCH.run("while true do end", 20000), 4);
        BENCH.same("its fuel", BENCH.script().count(0), 0);
        BENCH.same("nothing more is done", BENCH.run("pcall(function() while true do end end) print(1)", 50), 4);
        BENCH.same("by protected calls", BENCH.fetched(), "");
        BENCH.same("nothing more is done", BENCH.run("resume(create(function() while true do end end)) print(1)", 50), 4);
        BENCH.same("by strands", BENCH.fetched(), "");
        BENCH.same("what was written stays", BENCH.run("print(1) while true do end", 50), 4);
        BENCH.same("and can be fetched", BENCH.fetched(), "1\n");
    }
}
