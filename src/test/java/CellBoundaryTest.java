/** The boundaries of VALUES (promise 3): cells of objects, what is reachable and held, and the fault MEMORY. */
final class CellBoundaryTest {
    private static final Bench BENCH = new Bench("CellBoundaryTest");

    public static void main(String[] args) {
        cellsOfStrings();
        stringsOfTheText();
        stringsThatAreBuiltIn();
        cellsOfTables();
        cellsOfProcedures();
        cellsOfStrandsAndCalls();
        keptVariables();
        reachable();
        heldBySigns();
        heldByLists();
        heldByStatements();
        heldByCalls();
        heldForMetaTables();
        heldByBuiltInOnes();
        heldByStrands();
        roomForStrings();
        roomForTables();
        roomForProcedures();
        roomForStrands();
        roomForCalls();
        memoryAndOtherErrors();
        BENCH.finish();
    }

    /** What count() tells at each COUNT in a text, beyond the globals and the text's call. */
    private static void cells(String text, int... want) {
        StringBuilder due = new StringBuilder();
        for (int cells : want) {
            due.append(108 + cells).append('\n');
        }
        BENCH.writes(text.replace("COUNT", "print(count())"), due.toString());
    }

    /** As above, with a procedure c that tells it and gives its arguments: its own cells are taken off. */
    private static void within(String text, int... want) {
        StringBuilder due = new StringBuilder();
        for (int cells : want) {
            due.append(108 + cells).append('\n');
        }
        BENCH.writes("local function c(...) print(count() - 10) return ... end " + text, due.toString());
    }

    private static void cellsOfStrings() {
        int[] sizes = {1, 7, 8, 9, 15, 16, 17, 24, 25, 63, 64, 65, 992, 993, 999, 1000};
        for (int n : sizes) {
            // The letter alone stands in the text.
            int due = n == 1 ? 0 : 2 + (n + 7) / 8;
            cells("local s = rep('a', " + n + ") COUNT s = nil COUNT", due, 0);
        }
        cells("local s = char(1) COUNT s = rep(char(1), 0) COUNT s = sub('abc', 4) COUNT s = '' .. '' COUNT", 3, 0, 0, 0);
        cells("local a = 1 .. 2 COUNT local b = 12 .. '' COUNT local c = tostring(12) COUNT local d = concat({1, 2}) COUNT local e = sub('x12', 2) COUNT local f = char(49, 50) COUNT", 3, 3, 3, 3, 3, 3);
        cells("local a = 1 .. 2 local b = 1 .. 3 COUNT a = b COUNT", 6, 3);
        cells("local a = tostring(-12345678) COUNT a = tostring(12345678) COUNT", 4, 3);
    }

    private static void stringsOfTheText() {
        // Names of variables, members, fields and methods, and strings; not the words.
        cells("local abc local s = 'a' .. 'bc' COUNT", 0);
        cells("local s = 'a' .. 'bc' COUNT do return end abc = 1", 0);
        cells("local s = 'a' .. 'bc' COUNT do return end x.abc = 1", 0);
        cells("local s = 'a' .. 'bc' COUNT do return end x:abc()", 0);
        cells("local s = 'a' .. 'bc' COUNT do return end x = {abc = 1}", 0);
        cells("local s = 'a' .. 'bc' COUNT do return end x = 'abc'", 0);
        cells("local s = 'a' .. 'bc' COUNT do return end x = \"\\97bc\"", 0);
        cells("local s = 'a' .. 'bc' COUNT do return end function abc() end", 0);
        cells("local s = 'a' .. 'bc' COUNT do return end function x.abc() end", 0);
        cells("local s = 'a' .. 'bc' COUNT do return end function x(abc) end", 0);
        cells("local s = 'a' .. 'bc' COUNT do return end for abc in x do end", 0);
        cells("local s = 'a' .. 'bc' COUNT -- abc", 3);
        cells("local s = 'a' .. 'bc' COUNT do return end abcd = 'xabc'", 3);
        cells("local s = 1 .. 2 COUNT do return end x = 12", 3);
        for (String word : "and break do else elseif end for if in local not or repeat return then until while".split(" ")) {
            String letters = word.substring(0, 1) + "' .. '" + word.substring(1);
            cells("local s = '" + letters + "' COUNT", 3);
        }
        // self, only if a procedure's name has a ':'.
        cells("local s = 'se' .. 'lf' COUNT", 3);
        cells("local s = 'se' .. 'lf' COUNT do return end function x.y() end x:y()", 3);
        cells("local s = 'se' .. 'lf' COUNT do return end function x:y() end", 0);
        cells("local s = 'se' .. 'lf' COUNT do return end self = 1", 0);
    }

    private static void stringsThatAreBuiltIn() {
        String names = "print type tostring tonumber rawget rawset rawequal rawlen setmetatable getmetatable next pairs ipairs error assert pcall select unpack sub byte char rep concat insert remove create resume yield wrap status running count";
        String quoted = "nil boolean number string table function strand true false suspended running normal dead __index __newindex __call __tostring __add __sub __mul __div __mod __concat __lt __le __eq __len __unm";
        for (String word : (names + " " + quoted).split(" ")) {
            cells("local s = '" + word.substring(0, 1) + "' .. '" + word.substring(1) + "' COUNT", 0);
        }
        String[] errors = {"too many values", "nil key", "no number", "step is zero", "no table", "too deep", "division by zero", "no string", "no order", "no length", "no call", "bad value", "no key", "assertion failed", "too long", "dead strand", "no strand"};
        for (String error : errors) {
            cells("local s = '" + error.substring(0, 3) + "' .. '" + error.substring(3) + "' COUNT", 0);
            int n = error.length() + 1;
            cells("local s = '" + error.substring(0, 3) + "' .. '" + error.substring(3) + "s' COUNT", 2 + (n + 7) / 8);
        }
        cells("local s = char(35) COUNT s = char(36) COUNT", 0, 3);
        // They are there, and one, whether a text names them or not.
        cells("local t = {} for k in pairs({}) do end local n = type(1) .. '' COUNT", 4);
        String[] others = {"__pow", "__gc", "userdata", "thread", "strands", "TRUE", "Nil", "__ind", "key", "deep", "wait"};
        for (String word : others) {
            cells("local s = '" + word.substring(0, 1) + "' .. '" + word.substring(1) + "' COUNT", 3);
        }
    }

    private static void cellsOfTables() {
        cells("local t = {} COUNT t[1] = 1 COUNT t.x = 1 COUNT t[1] = nil COUNT t.x = 2 COUNT t.y = 1 COUNT", 4, 7, 10, 10, 10, 10);
        cells("local t = {1, 2, 3, nil, 5} COUNT", 16);
        cells("local t = {} t.x = nil COUNT t[1] = nil COUNT rawset(t, 1, nil) COUNT insert(t, nil) COUNT", 4, 4, 4, 4);
        cells("local t = {1, 2, 3} remove(t) COUNT remove(t) COUNT insert(t, 5) COUNT", 13, 13, 10);
        // All without values leave the row when one comes.
        cells("local t = {} for i = 1, 30 do t[i] = i end for i = 1, 29 do t[i] = nil end COUNT t[30] = 0 COUNT t.x = 1 COUNT", 94, 94, 10);
        cells("local t = {x = 1} t.x = nil t.x = 1 COUNT t.x = nil COUNT t.x = nil COUNT", 7, 7, 7);
        cells("x = 1 COUNT x = nil COUNT x = 2 COUNT y = 3 COUNT", 3, 3, 3, 6);
        // Keys without values are reachable.
        cells("local t = {[{}] = 1, [{}] = 2} COUNT for k in pairs(t) do t[k] = nil end COUNT t.x = 1 COUNT", 18, 18, 7);
        cells("local t = {['a' .. 1] = 1} COUNT t['a' .. 1] = nil COUNT t.x = 1 COUNT", 10, 10, 7);
        // Values that are gone are not.
        cells("local t = {{}, {}} COUNT t[1] = nil COUNT t[2] = 5 COUNT", 18, 14, 10);
        cells("local t = setmetatable({}, {}) COUNT setmetatable(t, {{}}) COUNT setmetatable(t) COUNT", 8, 15, 4);
    }

    private static void cellsOfProcedures() {
        cells("local f = function() end COUNT", 2);
        cells("local f = function(a, b, ...) local c return a, b, c, ... end COUNT", 2);
        cells("local f = function() return x, y, z end COUNT", 2);
        cells("local a local f = function() return a end COUNT", 2 + 1 + 2);
        cells("local a, b, c local f = function() return a, b end COUNT", 2 + 2 + 4);
        cells("local a local f = function() a = 1 return a, a, a end COUNT", 5);
        cells("local a local f = function() if nil then a = 1 end end COUNT", 5);
        cells("local f, g = print, function() end COUNT f = print COUNT", 2, 2);
        cells(Bench.numbered("local v%", 20, " ") + " local f = function() return " + Bench.numbered("v%", 20, " or ") + " end COUNT", 2 + 20 + 40);
    }

    private static void cellsOfStrandsAndCalls() {
        cells("local s = create(function() end) COUNT", 12);
        cells("local w = wrap(function() end) COUNT", 15);
        cells("local f = function() end local s, u = create(f), create(f) COUNT f = nil COUNT s = nil COUNT", 22, 22, 12);
        cells("local function f() COUNT end f()", 2 + 8);
        cells("local function f(n) if n > 1 then f(n - 1) else COUNT end end f(1) f(2) f(50)", 5 + 8, 5 + 16, 5 + 400);
        cells("pcall(count) COUNT local n = select(2, pcall(count)) print(n)", 0, 8);
        cells("local p, c = pcall, count local a, b, n = p(p, c) print(n)", 16);
        cells("local function f() COUNT end pcall(f) pcall(pcall, f)", 2 + 16, 2 + 24);
        // Built-in ones have no cells, and their calls neither.
        cells("local a, b, c = print, count, pairs COUNT local x = tostring(count()) print(x)", 0, 0);
    }

    private static void keptVariables() {
        // From when first a procedure that keeps it is made, as long as one does.
        cells("local a = {} COUNT local f = function() return a end COUNT f = nil COUNT f = function() return a end COUNT", 4, 9, 4, 9);
        cells("local a local f, g = function() return a end, function() return a end COUNT f = nil COUNT g = nil COUNT", 8, 5, 0);
        // Its scope alone holds the value.
        cells("local f do local a = {} f = function() return a end end COUNT f = nil COUNT", 9, 0);
        cells("local a = {} local f = function() a = nil end COUNT f() COUNT f = nil COUNT", 9, 5, 0);
        cells("local a = {} local f = function() return a end f = nil COUNT a = nil COUNT", 4, 0);
        // One between keeps it, too.
        cells("local a local f = function() return function() return a end end COUNT local g = f() COUNT f = nil COUNT", 5, 8, 5);
        cells("local a local function f() return function() return function() return a end end end local g = f()() f = nil COUNT", 5);
        cells("local function f() return f end COUNT local g = f f = nil COUNT g = nil COUNT", 5, 5, 0);
        cells("local function f(a) return function() return a end end local g, h = f({}), f({}) COUNT g = nil COUNT", 2 + 18, 2 + 9);
        cells("local t = {} for i = 1, 4 do t[i] = function() return i end end COUNT", 4 + 4 * (3 + 5));
        cells("local t = {} for i = 1, 4 do t[i] = function() return t end end COUNT", 4 + 4 * (3 + 3) + 2);
        cells("local t = {} local function g() return t end for i = 1, 2 do t[i] = function() return t, i end end COUNT", 4 + 3 + 2 + 2 * (3 + 4 + 2));
    }

    private static void reachable() {
        cells("x = {} COUNT x = nil COUNT", 7, 3);
        cells("x = {{{}}} COUNT", 3 + 4 + 3 + 4 + 3 + 4);
        cells("local t = {} t.t = t COUNT t = nil COUNT", 7, 0);
        cells("local a = {} local b = {a} a[1] = b COUNT a = nil COUNT b = nil COUNT", 14, 14, 0);
        cells("local m = {} m.__index = m local t = setmetatable({}, m) m = nil COUNT t = nil COUNT", 11, 0);
        cells("local a = {} local f = function() return a end a = setmetatable({}, {x = f}) a = nil f = nil COUNT", 0);
        // A wrapper's strand, and the procedure of one that is new.
        cells("local w = wrap(function() end) COUNT w = nil COUNT", 15, 0);
        cells("local a = {} local s = create(function() return a end) a = nil COUNT s = nil COUNT", 10 + 5, 0);
        // Its calls, and what they hold.
        cells("local s = create(function(a, ...) local b = {} yield() end) resume(s, {}, {}, {}) COUNT resume(s) COUNT", 10 + 8 + 2 + 4 * 4, 10);
        // What is only in itself is not.
        cells("local w w = wrap(function() return w end) COUNT w = nil COUNT", 13 + 5, 0);
        cells("local s s = create(function() local t = {s} yield() end) resume(s) COUNT s = nil COUNT", 10 + 8 + 5 + 7, 0);
    }

    private static void heldBySigns() {
        for (String sign : "+ - * // % .. < <= > >= == ~=".split(" ")) {
            within("local x = pcall(function() return {} " + sign + " c() end)", 8 + 8 + 2 + 1 + 2 + 4);
        }
        within("local x = {} and c() local y = nil or c() local z = {} and {} and c()", 0, 0, 0);
        within("local x = ({} and 1) == c()", 0);
        within("local x = {} == ({} and c())", 4);
        within("local x = not {} == c()", 0);
        within("local x = #{1, 2} == c()", 0);
        within("local x = ('a' .. 1) .. ('a' .. c(2))", 3);
        within("local x = {} == ({} == c())", 8);
        within("if {} then c() end while {} do c() break end repeat c() until {}", 0, 0, 0);
        within("if nil then elseif {} then c() end", 0);
    }

    private static void heldByLists() {
        within("local a, b, d = {}, {}, c()", 8);
        within("local t = {{}, {}, c()}", 4 + 14);
        within("local t = {x = {}, y = c()}", 4 + 7);
        within("local t = {[{}] = c()}", 8);
        within("local t = {[c({})] = c()}", 4 + 4, 8);
        within("local function f() end f({}, {}, c())", 2 + 8);
        within("local function f() end f(c({}), c())", 2 + 4, 2 + 4);
        within("local function f() return {}, c() end f()", 2 + 1 + 2 + 8 + 4);
        within("for a in next, {}, c() do end", 4);
        within("for a, b in pairs({1}) do c() end", 7);
        within("for i = 1, 1, c(1) do c() end", 0, 0);
        // What is beyond the adjusted number goes.
        within("local a = 1, {}, {} c()", 0);
        within("for a in next, {1}, nil, {} do c() end", 7);
        within("x = 1, {} c()", 3);
    }

    private static void heldByStatements() {
        within("local t = {} t[{}] = c()", 8);
        within("local t = {} t.x, t[{}] = c(), 1", 8);
        within("; ({})[c(1)] = 1", 4);
        within("function x() end ({}).y = c()", 3 + 2 + 4);
        within("local t = {} function t.f() end c()", 4 + 3 + 2);
        // To the end of the statement, though all is set.
        String t = "local t = setmetatable({}, {__newindex = function(t, k, v) t, k, v = nil COUNT end}) ";
        cells(t + "t.x = {}", 4 + 4 + 3 + 2 + 8 + 4);
        cells(t + "t[{}] = {}", 4 + 4 + 3 + 2 + 8 + 8);
        cells(t + "local u = {} t.x, u.y = {}, {}", 4 + 4 + 3 + 2 + 8 + 4 + 4 + 3 + 4);
        cells(t + "local u = {} u.y, t.x = {}, {}", 4 + 4 + 3 + 2 + 8 + 4 + 4 + 4);
        cells(t + "function t.f() end", 4 + 4 + 3 + 2 + 8 + 2);
        // Nothing is held behind a statement, nor what is given to it.
        cells("local t = {} function t.f() end t = nil COUNT", 0);
        cells("local t = {u = {}} function t.u.f() end function t:g() end t = nil COUNT", 0);
        cells("function f() end f = nil COUNT local function g() end g = nil COUNT", 3, 3);
        cells("local t = {} t[{}] = nil t.x = {} t = nil COUNT local u, v = {}, {} u, v = v COUNT u = nil COUNT", 0, 4, 0);
        cells("(function() return {}, {} end)() COUNT local x = (function() return 1, {} end)() COUNT", 0, 0);
        cells("local t = setmetatable({}, {__newindex = function() COUNT return {}, {} end}) t.x, t.y, t.z = 1", 21, 21, 21);
        // Variables go with their blocks, and with each round.
        cells("do local a = {} COUNT end COUNT", 4, 0);
        cells("for i = 1, 2 do local a = {} COUNT end COUNT", 4, 4, 0);
        cells("for i = 1, 2 do COUNT local a = {} end COUNT", 0, 0, 0);
        cells("local n = 0 repeat local a = {} n = n + 1 until print(count()) or n == 2 COUNT", 4, 4, 0);
        cells("while true do local a = {} break end COUNT if 1 then local a = {} end COUNT", 0, 0);
        cells("local a = {} local a = 1 COUNT", 4);
        cells("local a = {} do local a = {} COUNT end COUNT", 8, 4);
        cells("for k, v in next, {{}, {}} do COUNT v = nil end COUNT", 18, 18, 0);
    }

    private static void heldByCalls() {
        // Its arguments go when a procedure's call has begun, but for its variables and extra values.
        cells("local function f() COUNT end f({}, {})", 10);
        cells("local function f(a) COUNT a = nil COUNT end f({}, {})", 14, 10);
        cells("local function f(...) COUNT end f({}, {})", 18);
        cells("local function f(a, ...) COUNT a = nil COUNT end f({}, {}, {})", 22, 18);
        cells("local t = {} function t:m() COUNT self = nil COUNT end t:m({})", 4 + 3 + 2 + 8, 4 + 3 + 2 + 8);
        cells("local function f() COUNT end f(f({}))", 10, 10);
        // The procedure itself is held, whatever becomes of it.
        cells("(function() COUNT end)()", 10);
        cells("f = function() f = nil COUNT end f()", 3 + 10);
        cells("local t = {function() COUNT end} local function g() local f = t[1] t = nil f() end g()", 2 + 8 + 1 + 2 + 2 + 8);
        // What calls holds what it has evaluated.
        cells("local function f() COUNT end local x = {{}, f()}", 2 + 8 + 11);
        cells("local function f() COUNT end local function g() local a = {} f() end g()", 2 + 8 + 3 + 2 + 8 + 4);
    }

    private static void heldForMetaTables() {
        // The operands and members that a meta table answers for: till its call has begun.
        cells("local m = {__add = function() COUNT end} local x = setmetatable({}, m) + {}", 4 + 3 + 2 + 8);
        cells("local m = {__add = function(a, b) COUNT end} local x = {} + setmetatable({}, m)", 4 + 3 + 2 + 8 + 8);
        cells("local m = {__add = function(a, b) a = nil COUNT end} local x = {} + setmetatable({}, m)", 4 + 3 + 2 + 8 + 4);
        cells("local m = {__unm = function() COUNT end, __len = function() COUNT end} local x = - setmetatable({}, m) x = # setmetatable({}, m)", 4 + 6 + 4 + 8, 4 + 6 + 4 + 8);
        cells("local m = {__lt = function() COUNT end} local x = setmetatable({}, m) > {}", 4 + 3 + 2 + 8);
        cells("local m = {__eq = function() COUNT end} local x = setmetatable({}, m) ~= {}", 4 + 3 + 2 + 8);
        cells("local m = {__concat = function() COUNT end} local x = setmetatable({}, m) .. ('a' .. 1)", 4 + 3 + 2 + 8);
        cells("local m = {__index = function() COUNT end} local x = setmetatable({}, m)[{}]", 4 + 3 + 2 + 8);
        cells("local m = {__index = function(t, k) COUNT end} local x = setmetatable({}, m)[{}]", 4 + 3 + 2 + 8 + 8);
        cells("local m = {__index = function() COUNT end} local x = setmetatable({}, {__index = setmetatable({}, m)}).x", 4 + 3 + 2 + 8);
        cells("local m = {__call = function() COUNT end} setmetatable({}, m)({})", 4 + 3 + 2 + 8);
        cells("local m = {__call = function(...) COUNT end} setmetatable({}, m)({})", 4 + 3 + 2 + 8 + 8);
        // A method's prefix is held for the call.
        cells("local m = {__index = function() COUNT return type end} setmetatable({}, m):x(1)", 4 + 3 + 2 + 8 + 4);
        // Built-in ones hold both as long as they are at work.
        BENCH.writes("print(setmetatable({}, {__add = count}) + {} - 108)", "15\n");
        BENCH.writes("print(setmetatable({}, {__index = count})[{}] - 108)", "15\n");
        BENCH.writes("print(-setmetatable({}, {__unm = count}) - 108, #setmetatable({}, {__len = count}) - 108)", "11 11\n");
        BENCH.writes("print(setmetatable({}, {__call = count})({}) - 108)", "15\n");
        BENCH.writes("print(setmetatable({}, {__index = setmetatable({}, {__index = count})}).x - 108)", "22\n");
    }

    private static void heldByBuiltInOnes() {
        BENCH.writes("print(count({}, {}, 'a' .. 1) - 108)", "11\n");
        cells("pcall(function(a) a = nil COUNT end, {})", 2 + 16 + 4);
        cells("pcall(function(a) a = nil COUNT error() end, {}) COUNT", 2 + 16 + 4, 0);
        cells("pcall(pcall, function(a) a = nil COUNT end, {})", 2 + 24 + 4);
        cells("local m = {__tostring = function(t) t = nil COUNT end} tostring(setmetatable({}, m), {})", 4 + 3 + 2 + 8 + 8);
        cells("resume(create(function(a) a = nil COUNT end), {})", 10 + 2 + 8 + 4);
        cells("wrap(function(a) a = nil COUNT end)({})", 13 + 2 + 8 + 4);
        cells("local s = create(function() yield() COUNT end) resume(s, {}) COUNT resume(s, {})", 20, 24);
        cells("local s = create(function() yield({}) COUNT end) resume(s) COUNT resume(s)", 24, 20);
        cells("for k in pairs(setmetatable({1}, {})) do COUNT end", 7 + 4);
    }

    private static void heldByStrands() {
        // The one that waits holds what it has evaluated.
        cells("local w = wrap(function() COUNT end) local x = {{}, w()}", 13 + 2 + 8 + 11);
        cells("local s = create(function() local a = {} wrap(function() COUNT end)() end) resume(s)", 10 + 8 + 2 + 4 + 13 + 8 + 2);
        cells("local s s = create(function() local u = create(function() s = nil COUNT end) resume(u) end) resume(s)", 10 + 8 + 2 + 1 + 10 + 8 + 2 + 1 + 2);
        cells("local s = create(function() local x = {{}, yield()} end) resume(s) COUNT resume(s) COUNT", 10 + 8 + 2 + 11, 10);
        cells("local s = create(function() local function f(a) local b = {} yield() end f({}) end) resume(s) COUNT", 10 + 16 + 4 + 8);
        cells("local s = create(function() local a = {} error(a) end) local ok, e = resume(s) COUNT e = nil COUNT", 14, 10);
        cells("local s = create(function() while true do local a = {} yield() end end) resume(s) resume(s) resume(s) COUNT", 24);
        // What runs is reachable though nothing names it.
        cells("wrap(function() COUNT end)()", 13 + 2 + 8);
        cells("local w = wrap(function() local s = running() yield(s) end) local s = w() COUNT w = nil COUNT s = nil COUNT", 23, 20, 0);
    }

    private static void roomForStrings() {
        BENCH.needs("local s = 'a' .. 1", 3);
        BENCH.needs("local s = 'abcdefgh' .. 1", 4);
        BENCH.needs("local s = rep('a', 8)", 3);
        BENCH.needs("local s = rep('a', 9)", 4);
        BENCH.needs("local s = rep('a', 1000)", 127);
        BENCH.needs("local s = tostring(12)", 3);
        BENCH.needs("local s = char(1, 2)", 3);
        BENCH.needs("local s = sub('abc', 1, 2)", 3);
        BENCH.needs("local s = concat({'a', 'b'})", 10 + 3);
        // With that what it is made of.
        BENCH.needs("local s = ('a' .. 1) .. ('b' .. 2)", 9);
        BENCH.needs("local s = 'a' .. 1 s = s .. 2", 6);
        BENCH.needs("local s = rep(rep('ab', 2), 2)", 6);
        BENCH.needs("local s = sub(rep('ab', 8), 2)", 4 + 4);
        BENCH.needs("local s = 'a' .. ('b' .. ('c' .. 1))", 6);
        // One that is reachable, stands in the text or is built in needs nothing.
        BENCH.needs("local s = 'a' .. 1 local u = 'a' .. 1 u = sub('ba1', 2)", 3);
        BENCH.needs("local t = {} local s = 'too' .. ' deep' s = 'p' .. 'rint' s = 'x' .. 'y' local xy", 4);
        // One that is gone is made again.
        BENCH.needs("local s = 'a' .. 1 s = nil s = 'b' .. 1 s = nil s = 'a' .. 1", 3);
        BENCH.needs("for i = 1, 50 do local s = 'a' .. i end", 3);
    }

    private static void roomForTables() {
        BENCH.needs("local t = {}", 4);
        BENCH.needs("local t = {1}", 7);
        BENCH.needs("local t = {1, 2, 3}", 13);
        BENCH.needs("local t = {nil, nil}", 4);
        BENCH.needs("local t = {{}, {}}", 18);
        BENCH.needs("local t = {x = 'a' .. 1}", 10);
        BENCH.needs("local t = {unpack({1, 2, 3})}", 4 + 13);
        BENCH.needs("local t = {} t.x = 1", 7);
        BENCH.needs("local t = {} t.x = {}", 11);
        BENCH.needs("local t = {} t[{}] = 1", 11);
        BENCH.needs("local t = {} rawset(t, 1, 2)", 7);
        BENCH.needs("local t = {} insert(t, 1)", 7);
        BENCH.needs("local t = {1} insert(t, 1, 2)", 10);
        BENCH.needs("x = 1", 3);
        BENCH.needs("x = {}", 7);
        BENCH.needs("function x() end", 5);
        BENCH.needs("local t = {} function t.x() end", 9);
        BENCH.needs("local u = {} setmetatable({}, {__newindex = u}).x = 1", 4 + 4 + 4 + 3 + 3);
        // A key that has a value does not come; one that had one does, and those without leave first.
        BENCH.needs("local t = {x = 1} t.x = 2 t.x = 3", 7);
        BENCH.needs("local t = {x = 1} t.x = nil t.y = 2", 7);
        BENCH.needs("local t = {1, 2, 3} t[1], t[2], t[3] = nil t.x, t.y, t.z = 1, 2, 3", 13);
        BENCH.needs("local t = {1, 2, 3} t[2] = nil t[2] = 2", 13);
        BENCH.needs("local t = {[{}] = 1} t[next(t)] = nil t.x = 1", 11);
        BENCH.needs("local t = {} t.x = nil t.y = nil", 4);
        // What is gone makes room.
        BENCH.needs("local t for i = 1, 50 do t = {i} end", 4 + 3 + 4 + 3);
        BENCH.needs("for i = 1, 50 do local t = {i} end", 7);
        BENCH.needs("local t = {} for i = 1, 9 do t[1] = {i} end", 4 + 3 + 7 + 7);
    }

    private static void roomForProcedures() {
        BENCH.needs("local f = function() end", 2);
        BENCH.needs("local function f() end", 2);
        BENCH.needs("local function f() return f end", 5);
        BENCH.needs("local a local f = function() return a end", 5);
        BENCH.needs("local a, b, c local f = function() return a, b, c end", 2 + 3 + 6);
        // Those that are kept already need not be made again.
        BENCH.needs("local a, b local f = function() return a end local g = function() return a, b end", 5 + 4 + 2);
        BENCH.needs("local a local f = function() return a end f = nil f = function() return a end", 5);
        BENCH.needs("local a, b, c local f = function() return b end local g = function() return a, b, c end", 5 + 2 + 3 + 4);
        BENCH.needs("local a, b, c local f = function() return c end local g = function() return a, c, b end", 5 + 2 + 3 + 4);
        BENCH.needs("local a local f = function() return a end f = nil local t = {} f = function() return a end", 4 + 5);
        BENCH.needs("local a, b local f = function() return a, b end f = nil local t = {} f = function() return b end", 4 + 5);
        BENCH.needs("local a, b local f = function() return a end f = nil f = function() return a, b end", 2 + 2 + 4);
        BENCH.needs("local a, b, c local f = function() return b, c end f = nil f = function() return a, b, c end", 2 + 3 + 6);
        BENCH.needs("local a for i = 1, 30 do local f = function() return a, i end end", 2 + 2 + 4);
        BENCH.needs("local a local f = function() return function() return a end end local g = f()", 5 + 8 + 3);
    }

    private static void roomForStrands() {
        BENCH.needs("local f = function() end local s = create(f)", 12);
        BENCH.needs("local f = function() end local s = wrap(f)", 15);
        BENCH.needs("local s = create(function() end) resume(s)", 20);
        BENCH.needs("local s = wrap(function() end) s()", 23);
        BENCH.needs("local s = create(function() yield() end) resume(s) resume(s)", 20);
        BENCH.needs("for i = 1, 20 do local s = create(function() yield() end) resume(s) end", 20);
        BENCH.needs("local w = wrap(function() wrap(function() end)() end) w()", 23 + 23);
        // A strand that is dead has no calls.
        BENCH.needs("local s = create(function() local t = {} end) resume(s) s = {s}", 24);
        BENCH.needs("local s = create(function() local t = {} end) resume(s) local a, b, d = {}, {}, {}", 24);
    }

    private static void roomForCalls() {
        BENCH.needs("(function() end)()", 10);
        BENCH.needs("local function f(n) if n > 1 then f(n - 1) end end f(5)", 5 + 40);
        BENCH.needs("pcall(type)", 8);
        BENCH.needs("pcall(pcall, type)", 16);
        BENCH.needs("pcall(function() end)", 2 + 16);
        BENCH.needs("for k in function() end do end", 10);
        BENCH.needs("local x = setmetatable({}, {__index = function() end}).x", 4 + 4 + 3 + 2 + 8);
        BENCH.needs("setmetatable({}, {__call = function() end})()", 4 + 4 + 3 + 2 + 8);
        BENCH.needs("local x = setmetatable({}, {__add = function() end}) + {}", 4 + 4 + 3 + 2 + 8 + 4);
        BENCH.needs("setmetatable({}, {__newindex = function() end}).x = {}", 4 + 4 + 3 + 2 + 8 + 4);
        BENCH.needs("tostring(setmetatable({}, {__tostring = function() end}))", 4 + 4 + 3 + 2 + 8);
        // When all is evaluated: the arguments are held till then.
        BENCH.needs("local function f() end f({}, {})", 2 + 8 + 8);
        BENCH.needs("local function f() local t = {} end f({}, {})", 2 + 8 + 8);
        BENCH.needs("local function f() local t = {{}} end f({}, {})", 2 + 8 + 11);
        BENCH.needs("local function f() end f(f({}), f({}))", 2 + 8 + 4);
        // Those that are through make room.
        BENCH.needs("local function f() end for i = 1, 50 do f() pcall(f) end", 2 + 16);
        BENCH.needs("pcall(error) pcall(error) local t = {{}}", 11);
        String table = " local t = {{}, {}, {}, {}}";
        BENCH.needs("for i = 1, 30 do pcall(type) end" + table, 4 + 28);
        BENCH.needs("for i = 1, 30 do pcall(error) end" + table, 4 + 28);
        BENCH.needs("local f = function() end for i = 1, 30 do f() end" + table, 2 + 4 + 28);
        BENCH.needs("local f = function() error() end for i = 1, 30 do pcall(f) end" + table, 2 + 4 + 28);
        BENCH.needs("local m = setmetatable({}, {__tostring = type}) for i = 1, 30 do tostring(m) end" + table, 11 + 4 + 28);
        BENCH.needs("local f = function() end for i = 1, 30 do resume(create(f)) end" + table, 2 + 4 + 28);
        BENCH.needs("local f = function() error() end for i = 1, 30 do resume(create(f)) end" + table, 2 + 4 + 28);
        BENCH.needs("local f = function() error() end for i = 1, 30 do pcall(wrap(f)) end" + table, 2 + 4 + 28);
        BENCH.needs("local f = function() yield() end for i = 1, 30 do resume(create(f)) end" + table, 2 + 4 + 28);
        String strands = " local t = {} for i = 1, 5 do t[i] = create(f) resume(t[i]) end local u = {{}, {}, {}, {}}";
        BENCH.needs("local f = function() error() end" + strands, 2 + 4 + 5 * 13 + 4 + 28);
        BENCH.needs("local f = function() end" + strands, 2 + 4 + 5 * 13 + 4 + 28);
        BENCH.needs("local f = function() yield() end" + strands, 2 + 4 + 5 * 21 + 4 + 28);
        BENCH.needs("local w = wrap(function() while true do yield() end end) for i = 1, 30 do w() end" + table, 23 + 4 + 28);
        BENCH.needs("local t = {} for i = 1, 30 do t.x = i t.x = nil end" + table, 4 + 3 + 4 + 28);
        BENCH.needs("local t = {} for i = 1, 30 do t[i] = i t[i] = nil end" + table, 4 + 3 + 4 + 28);
        BENCH.needs("for i = 1, 30 do local s = 'k' .. i % 4 end" + table, 4 + 28);
    }

    private static void memoryAndOtherErrors() {
        // Too deep is ahead of the call's cells: 60 calls fill the heap of 588 to its last cell.
        BENCH.heap(108 + 5 + 59 * 8);
        BENCH.ends("local function r() return r() end return r()", 1 + 60, 5, 0, "! too deep\n");
        BENCH.heap(108 + 5 + 59 * 8 - 1);
        BENCH.ends("local function r() return r() end return r()", 1 + 60, 6, 1, "");
        // Errors of the arguments are ahead of all cells.
        BENCH.heap(300);
        String full = "local a, b = rep('a', 1000), rep('b', 504) ";
        BENCH.same("the heap is full", BENCH.run(full, 999), 0);
        BENCH.fails(full + "local x = rep('a', 1001)", "! too long\n");
        BENCH.fails(full + "local x = create(print)", "! bad value\n");
        BENCH.fails(full + "rawset(5, 1, 2)", "! bad value\n");
        BENCH.fails(full + "x[nil] = 1", "! no table\n");
        BENCH.same("nothing more fits", BENCH.run(full + "x = 1", 999), 6);
        BENCH.same("nothing more fits", BENCH.run(full + "local x = function() end", 999), 6);
        BENCH.same("what is there is fine", BENCH.run(full + "print = 5 local x, y = -1, 'b' .. '' x = #a + 1 x = a == b", 999), 0);
        // Behind the fault nothing is counted that was not made.
        BENCH.same("a table whose key has no room", BENCH.run("x = 1 y = {" + Bench.numbered("%", 99, ",") + "}", 999), 6);
        BENCH.same("cells behind it", BENCH.script().count(1), 103);
        BENCH.same("a global key that has no room", BENCH.run(full + "print = nil x = {}", 999), 6);
        BENCH.same("cells behind it", BENCH.script().count(1), 100);
        BENCH.same("one for which another leaves", BENCH.run(full + "print = nil x = 5", 999), 0);
        BENCH.same("cells behind it", BENCH.script().count(1), 100);
        BENCH.heap(2000);
    }
}
