/** Promise 3: cells, what is reachable and held, and the fault MEMORY. */
final class MemoryTest {
    private static final Bench BENCH = new Bench("MemoryTest");

    public static void main(String[] args) {
        cellsOfObjects();
        cellsOfRows();
        keptVariables();
        strings();
        scopes();
        halfDoneExps();
        callsAndArguments();
        builtInOnesAtWork();
        strands();
        limits();
        manyRuns();
        BENCH.finish();
    }

    /** The cells that count() tells at a place of a text, beyond the globals and the text's call. */
    private static void cells(String text, int... want) {
        StringBuilder due = new StringBuilder();
        for (int cells : want) {
            due.append(108 + cells).append('\n');
        }
        BENCH.writes(text.replace("COUNT", "print(count())"), due.toString());
    }

    private static void cellsOfObjects() {
        cells("COUNT", 0);
        cells("local t = {} COUNT t = nil COUNT", 4, 0);
        cells("local t = {1, 2, x = 3} COUNT", 13);
        cells("x = 1 COUNT x = nil COUNT y = 1 COUNT", 3, 3, 3);
        cells("local f = function() end COUNT", 2);
        cells("local s = create(function() end) COUNT resume(s) COUNT", 12, 10);
        cells("local w = wrap(function() end) COUNT w() COUNT", 15, 13);
        cells("local s = 'a' .. 1 COUNT s = 'abcdefgh' .. 1 COUNT s = nil COUNT", 3, 4, 0);
        cells("local f = function() COUNT end f() pcall(f) COUNT", 2 + 8, 2 + 16, 2);
        cells("local m = {} local t = setmetatable({}, m) m = nil COUNT setmetatable(t, nil) COUNT", 8, 4);
        cells("local t = {} t.t = t t = nil COUNT", 0);
        cells("local a, b = {}, {} a.b = b b.a = a a = nil COUNT b = nil COUNT", 14, 0);
    }

    private static void cellsOfRows() {
        cells("local t = {} for i = 1, 9 do t[i] = i end COUNT for i = 1, 9 do t[i] = nil end COUNT t.x = 1 COUNT", 31, 31, 7);
        // Keys without values stay reachable as long as they are in the row.
        cells("local t = {} t[{}] = 1 COUNT for k in pairs(t) do t[k] = nil end COUNT t.y = 1 COUNT", 11, 11, 7);
        cells("local t = {x = 1} t.x = nil t.x = 2 COUNT", 7);
        cells("local t = {x = 1} t.y = nil COUNT rawset(t, 'z', nil) COUNT", 7, 7);
    }

    private static void keptVariables() {
        cells("local a, b = 1, 2 local f = function() return a, b end COUNT f = nil COUNT", 2 + 2 + 4, 0);
        cells("local a = 1 local f, g = function() return a end, function() return a end COUNT f = nil COUNT g = nil COUNT", 8, 5, 0);
        // One in it names it, so that it keeps it, too.
        cells("local a local f = function() return function() return a end end COUNT local g = f() COUNT", 5, 8);
        // The scope holds the value alone.
        cells("local a = {} local f = function() return a end f = nil COUNT f = function() return a end COUNT a = nil COUNT f() COUNT", 4, 9, 5, 5);
        cells("local g do local a = {} g = function() a = a return a end end COUNT", 9);
        cells("local function f() return f end COUNT", 5);
        cells("local t = {} for i = 1, 3 do t[i] = function() return i end end COUNT", 4 + 3 * (3 + 3 + 2));
        cells("local f for i = 1, 2 do local x = {} f = f or function() return x end COUNT end COUNT", 9, 13, 9);
    }

    private static void strings() {
        // What stands in the text, or on the page, has no cells: names and strings, self only for a ':'.
        cells("local s = 'ab' .. 'c' local abc COUNT", 0);
        cells("local s = 'too ' .. 'deep' COUNT", 0);
        cells("local s = 'pri' .. 'nt' COUNT s = 'tr' .. 'ue' COUNT s = '__in' .. 'dex' COUNT", 0, 0, 0);
        cells("local s = 'sel' .. 'f' COUNT", 3);
        cells("local t = {} local s = 'sel' .. 'f' COUNT function t:m() end", 4);
        cells("local s = 'en' .. 'd' COUNT s = 'an' .. 'd' COUNT s = 'func' .. 'tion' COUNT", 3, 3, 0);
        cells("local s = rep('x', 0) COUNT s = rep('x', 2) COUNT s = rep('x', 8) COUNT s = rep('x', 9) COUNT s = rep('x', 1000) COUNT", 0, 3, 3, 4, 127);
        // Like ones are one.
        cells("local a = 'x' .. 1 COUNT local b = 'x' .. 1 COUNT local c = sub('xx1', 2) COUNT", 3, 3, 3);
        cells("local a = tostring(12) COUNT local b = tostring(13) COUNT", 3, 6);
        cells("local t = {} t['k' .. 1] = 'v' .. 1 COUNT", 4 + 3 + 3 + 3);
    }

    private static void scopes() {
        cells("do local t = {} COUNT end COUNT", 4, 0);
        cells("for i = 1, 2 do COUNT local t = {} COUNT end COUNT", 0, 4, 0, 4, 0);
        cells("local n = 0 while n < 2 do n = n + 1 local t = {} COUNT end COUNT", 4, 4, 0);
        cells("while true do local t = {} break end COUNT", 0);
        cells("repeat local t = {} until print(count()) or true COUNT", 4, 0);
        cells("if {} then COUNT end", 0);
        cells("while {} do COUNT break end", 0);
        cells("for k in pairs({1}) do COUNT end COUNT", 7, 0);
        cells("for k, v in next, {{}} do v = nil COUNT end COUNT", 11, 0);
    }

    private static void halfDoneExps() {
        String c = "local function c(...) print(count() - 10) return ... end ";
        cells(c + "local x = {} == c()", 4);
        cells(c + "local x = {{}, c()}", 11);
        cells(c + "local x = {[{}] = c()}", 8);
        cells(c + "local x = {} and c() local y = nil or c()", 0, 0);
        cells(c + "local t = ({})[c()]", 4);
        cells(c + "local function f() end f({}, c())", 6);
        cells(c + "local a, b = {}, c()", 4);
        cells(c + "local t = {} t[{}], t.y = c(), 1", 8);
        cells(c + "local x = ('a' .. 1) .. c('b')", 3);
        cells(c + "local t = {m = function() end} t:m(c())", 9);
        cells(c + "local x = ({} and 1) == c(1)", 0);
        // Values of a statement that is not through, though they are set already.
        cells("local u = {} local t = setmetatable({}, {__newindex = function(t, k, v) v = nil COUNT end}) u.x, t.y, u.x = 1, {}, {}", 4 + 4 + 4 + 3 + 2 + 8 + 3 + 4 + 4);
    }

    private static void callsAndArguments() {
        cells("local function f() COUNT end f({}, {})", 10);
        cells("local function f(a) COUNT a = nil COUNT end f({}, {})", 14, 10);
        cells("local function f(...) COUNT end f({}, {})", 18);
        cells("local function f(a, ...) a = nil COUNT end f({}, {})", 14);
        cells("local t = setmetatable({}, {__call = function(t, a) a = nil COUNT end}) t({})", 4 + 4 + 3 + 2 + 8);
        cells("local function m() return setmetatable({}, {__add = function(a, b) COUNT a, b = nil COUNT end}) end local x = m() + {}", 2 + 2 + 8 + 4 + 4 + 3 + 4, 2 + 2 + 8);
        cells("local x = setmetatable({}, {__index = function(t) COUNT t = nil COUNT end}).x", 2 + 8 + 11, 2 + 8);
        cells("(function() COUNT end)()", 10);
        cells("local f f = function() f = nil COUNT end f()", 8 + 3 + 2);
    }

    private static void builtInOnesAtWork() {
        cells("local x = count({}, {}) - 108 print(x + 108)", 8);
        cells("pcall(function(a) a = nil COUNT end, {})", 2 + 8 + 8 + 4);
        cells("pcall(pcall, function() COUNT end, {})", 2 + 24 + 4);
        cells("local function f(v) v = nil COUNT end tostring(setmetatable({}, {__tostring = f}), {})", 2 + 8 + 4 + 4 + 3 + 4);
        cells("resume(create(function(a) a = nil COUNT end), {})", 2 + 10 + 8 + 4);
        cells("wrap(function(a) a = nil COUNT end)({})", 2 + 13 + 8 + 4);
        cells("local s = create(function() yield({}) COUNT end) resume(s) COUNT resume(s, {})", 10 + 8 + 2 + 4, 10 + 8 + 2 + 4);
        cells("local s = create(function() yield({}) end) resume(s) COUNT resume(s) COUNT", 24, 10);
    }

    private static void strands() {
        cells("local s = create(function(a, ...) local b = {} yield() end) resume(s, {}, {}) COUNT", 10 + 8 + 2 + 12);
        cells("local s = create(function() local function f() yield() end f() end) resume(s) COUNT s = nil COUNT", 10 + 16 + 2 + 2, 0);
        cells("local s = create(function() local x = {{}, yield()} end) resume(s) COUNT", 10 + 8 + 2 + 11);
        cells("local s = create(function() local t = {} error() end) resume(s) COUNT", 10);
        cells("local s s = create(function() local u = create(function() s = nil COUNT end) resume(u) end) resume(s)", 2 + 3 + 18 + 3 + 18);
        cells("local s = create(function() local a = {} local f = function() return a end f = nil COUNT yield() end) resume(s) COUNT resume(s) COUNT", 10 + 8 + 2 + 4, 10 + 8 + 2 + 4, 10);
    }

    private static void limits() {
        BENCH.needs("local t = {}", 4);
        BENCH.needs("local t = {1}", 7);
        BENCH.needs("x = 1", 3);
        BENCH.needs("local f = function() end", 2);
        BENCH.needs("local a, b local f = function() return a, b end", 8);
        BENCH.needs("local a local f = function() return a end f = nil f = function() return a end", 5);
        BENCH.needs("local s = 'a' .. 1 s = 'a' .. 1 s = 'a' .. 1", 3);
        BENCH.needs("local s = 'a' .. 1 s = s .. 2", 6);
        BENCH.needs("local s = create(print and function() end)", 12);
        BENCH.needs("local w = wrap(function() end)", 15);
        BENCH.needs("local s = create(function() end) resume(s)", 20);
        BENCH.needs("(function() end)()", 10);
        BENCH.needs("pcall(print)", 8);
        BENCH.needs("pcall(function() end)", 18);
        BENCH.needs("for i = 1, 50 do local t = {{i}, 'x' .. i} end", 4 + 3 + 4 + 3 + 3 + 3);
        BENCH.needs("local t = {} t[{}] = 1 for k in pairs(t) do t[k] = nil end t.x = 1", 4 + 3 + 4);
        BENCH.needs("local t = {1, 2} t[1], t[2] = nil t.x = 1 t.y = 2", 10);
        BENCH.needs("local t = {} insert(t, 1) insert(t, 1, 2) remove(t)", 10);
        BENCH.needs("local function f() end f({}, {}, {})", 2 + 12 + 8);
        BENCH.needs("local function f(n) if n > 0 then f(n - 1) end end f(5)", 2 + 1 + 2 + 6 * 8);
        BENCH.needs("local s = tostring(12345678) .. ''", 3);
        BENCH.needs("x = setmetatable({}, {__index = setmetatable({}, {__index = function() end})}).x", 4 + 7 + 4 + 7 + 2 + 8);
        BENCH.needs("local s = create(function() yield() end) resume(s) s = nil s = create(function() yield() end) resume(s)", 20);
        BENCH.heap(300);
        BENCH.same("MEMORY ends the run", BENCH.run("pcall(function() local t = {} while true do t[#t + 1] = {} end end) print(1)", 20000), 6);
        BENCH.same("nothing more is done", BENCH.fetched(), "");
        BENCH.same("the globals are left", BENCH.script().count(1), 100);
        BENCH.same("deep calls need cells", BENCH.run("local function r() return r() end r()", 20000), 6);
        BENCH.same("too deep comes first in a large heap", BENCH.heap(8000).run("local function r() return r() end r()", 20000), 5);
        BENCH.fetched();
        BENCH.heap(2000);
    }

    /** An object's rows are used again: many runs leave no traces. */
    private static void manyRuns() {
        BENCH.heap(600);
        for (int i = 0; i < 60; i++) {
            BENCH.same("run " + i, BENCH.run("local t = {} for i = 1, 400 do t[i % 7] = {i, 'k' .. i, function() return i end} end x = t", 20000), 0);
            BENCH.same("cells of run " + i, BENCH.script().count(1), 103 + 4 + 7 * (3 + 4 + 9 + 3 + 3 + 2));
            BENCH.same("strands of run " + i, BENCH.run("local t = {} for i = 1, 200 do t[i % 5] = wrap(function(a) local b = {a} yield(b) end) t[i % 5](i) end x = t", 20000), 0);
            BENCH.same("their cells", BENCH.script().count(1), 103 + 4 + 5 * (3 + 3 + 10 + 8 + 2 + 7));
        }
    }
}
