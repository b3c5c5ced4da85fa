/** The boundaries of lists, order, names, FOR, members, signs, calls and errors (promise 3). */
final class RunningBoundaryTest {
    private static final Bench BENCH = new Bench("RunningBoundaryTest");

    public static void main(String[] args) {
        fortyValuesInLists();
        fortyArguments();
        fortyThatCallsGive();
        manyFields();
        adjusting();
        fields();
        orderOfTargets();
        namesInScope();
        loopsThatBreak();
        plainExps();
        forsWithNumbers();
        forsThatWrap();
        forsIn();
        stepsOfMembers();
        stepsOfSettings();
        keysAndValues();
        wrappingNumbers();
        divisions();
        orders();
        likeness();
        lengths();
        metaTablesOfSigns();
        sixtyCalls();
        stepsOfCalls();
        errorsThatEnd();
        BENCH.finish();
    }

    /** A protected call of this block writes this. */
    private static void tries(String block, String want) {
        BENCH.writes("local function f(n) return unpack({}, 1, n) end print(pcall(function() " + block + " end))", want);
    }

    private static void fortyValuesInLists() {
        String bad = "false too many values\n";
        tries("local a = f(40) return 1", "true 1\n");
        tries("local a, b = 1, f(39) return 1", "true 1\n");
        tries("local a, b = 1, f(40) return 1", bad);
        tries("local a = 1, 2, f(38) return 1", "true 1\n");
        tries("local a = 1, 2, f(39) return 1", bad);
        tries("x = 1, f(39) return 1", "true 1\n");
        tries("x = 1, f(40) return 1", bad);
        tries("x, y, z = 1, f(39) return 1", "true 1\n");
        tries("x, y, z = 1, f(40) return 1", bad);
        tries("for k in next, {}, nil, f(37) do end return 1", "true 1\n");
        tries("for k in next, {}, nil, f(38) do end return 1", bad);
        tries("return type((function() return 1, f(39) end)())", "true number\n");
        tries("return 1, f(40)", bad);
        tries("local a = (function() return 1, 2, 3, 4, 5, 6, 7, 8, 9, f(31) end)() return a", "true 1\n");
        tries("local a = (function() return 1, 2, 3, 4, 5, 6, 7, 8, 9, f(32) end)() return a", bad);
        // A call that is not the last one gives one value, and so does one in brackets.
        tries("local a, b = f(40), 1 return b", "true 1\n");
        tries("local a, b = (f(40)), f(39) return 1", "true 1\n");
        tries("local a, b = (f(40)), f(40) return 1", bad);
        // ... as well, of which there are more than 40 if a method's prefix is one of them.
        String extras = "local t = {m = function(...) %s end} ";
        tries(extras.replace("%s", "local a = ... return 1") + "return t:m(f(39))", "true 1\n");
        tries(extras.replace("%s", "local a = ... return 1") + "return t:m(f(40))", bad);
        tries(extras.replace("%s", "return (...) == t") + "return t:m(f(40))", "true false\n");
        tries(extras.replace("%s", "return type(...)") + "return t:m(f(39))", "true table\n");
        tries(extras.replace("%s", "return type(...)") + "return t:m(f(40))", bad);
        tries(extras.replace("%s", "return select('#', 1, ...)") + "return t:m(f(37))", "true 39\n");
        tries(extras.replace("%s", "return select('#', 1, ...)") + "return t:m(f(38))", bad);
    }

    private static void fortyArguments() {
        String bad = "false too many values\n";
        tries("return type(f(40))", "true nil\n");
        tries("return type(1, f(39))", "true number\n");
        tries("return type(1, f(40))", bad);
        tries("return (function(...) return select('#', ...) end)(f(39))", "true 39\n");
        tries("local function g(...) local a, b = ... return 7 end return g(f(40))", "true 7\n");
        tries("local function g(...) return 7 end return g(1, f(40))", bad);
        // Without a method's prefix.
        tries("local t = {m = function(s, ...) return type(s) end} return t:m(f(40))", "true table\n");
        tries("local t = {m = function(s, ...) return type(s) end} return t:m(1, f(39))", "true table\n");
        tries("local t = {m = function(s, ...) return type(s) end} return t:m(1, f(40))", bad);
        tries("local t = {m = type} return t:m(f(40))", "true table\n");
        // A table's "__call" gets it beside the arguments.
        tries("local t = setmetatable({}, {__call = type}) return t(f(40))", "true table\n");
        tries("local t = setmetatable({}, {__call = type}) return t(1, f(40))", bad);
        // Also of a call that is a statement, or whose values are not asked for.
        tries("type(1, f(39)) return 1", "true 1\n");
        tries("type(1, f(40)) return 1", bad);
        tries("type(1, f(40)) x = 5 return x", bad);
        tries("local t = {m = type} t:m(1, f(40)) x = 5 return x", bad);
        tries("local t = {m = type} t:m(f(40)) return 1", "true 1\n");
        tries("local t = {m = type} t:m(1, f(40)) return 1", bad);
        tries("local a = (type(1, f(40))) return 1", bad);
        // The list is looked at ahead of the call, and so of its fuel and its error.
        tries("return nope(1, f(40))", bad);
        BENCH.ends("return nope(1, unpack({}, 1, 40))", 1, 5, 0, "! too many values\n");
    }

    private static void fortyThatCallsGive() {
        String bad = "false too many values\n";
        tries("local a = (function() return f(40) end)() return 1", "true 1\n");
        tries("local a = (function() return 1, f(39) end)() return 1", "true 1\n");
        tries("local a = (function() return 1, f(40) end)() return 1", bad);
        tries("local a = unpack({}, 1, 40) return 1", "true 1\n");
        tries("local a = unpack({}, 1, 41) return 1", bad);
        tries("local a = unpack({}, 0, 39) return 1", "true 1\n");
        tries("local a = unpack({}, 0, 40) return 1", bad);
        tries("local a = unpack({}, -20, 19) return 1", "true 1\n");
        tries("local a = unpack({}, -20, 20) return 1", bad);
        tries("local a = assert(1, f(39)) return 1", "true 1\n");
        tries("local t = {m = assert} local a = t:m(f(39)) return 1", "true 1\n");
        tries("local t = {m = assert} local a = t:m(f(40)) return 1", bad);
        // TRUE of pcall counts, in the one that calls it.
        tries("local a = pcall(f, 39) return a", "true true\n");
        tries("local a = pcall(f, 40) return a", bad);
        tries("local a = pcall(pcall, f, 38) return a", "true true\n");
        tries("local a = pcall(pcall, f, 39) return a", bad);
        // TRUE of resume, too; what yields goes on all the same.
        tries("local s = create(f) local a = resume(s, 39) return a, status(s)", "true true dead\n");
        tries("local s = create(f) local a = resume(s, 40) return a", bad);
        tries("local s = create(function() yield(f(39)) end) local a = resume(s) return a, status(s)", "true true suspended\n");
        tries("local s = create(function() yield(f(40)) end) local a = resume(s) return a", bad);
        tries("local s = create(function() yield(f(40)) return 5 end) local a = pcall(resume, s) return a, resume(s)", "true false true 5\n");
        // A wrapper gives no TRUE.
        tries("local w = wrap(f) local a = w(40) return 1", "true 1\n");
        tries("local w = wrap(function() yield(f(40)) end) local a = w() return 1", "true 1\n");
        // What a yield gives.
        tries("local s = create(function() return select('#', yield()) end) resume(s) return resume(s, f(38))", "true true 38\n");
        tries("local w = wrap(function() local a = yield() return 1 end) w() return w(f(40))", "true 1\n");
        tries("local w = wrap(function() local a, b = 1, yield() return 1 end) w() return w(f(39))", "true 1\n");
        tries("local w = wrap(function() local a, b = 1, yield() return 1 end) w() return w(f(40))", bad);
        // What tostring gives is what "__tostring" gives.
        tries("local t = setmetatable({}, {__tostring = function() return f(40) end}) local a = tostring(t) return 1", "true 1\n");
    }

    private static void manyFields() {
        BENCH.writes("local function f(...) return #{...}, #{..., 5}, #{5, ...}, #{n = 1, ...}, #{(...)}, #{..., n = 1} end print(f(1, 2, 3)) print(f()) print(f(7))", "3 2 4 3 1 1\n0 0 1 0 0 0\n1 2 2 1 1 1\n");
        BENCH.writes("local function f(...) local t = {...,} local u = {...;} return #t, #u, t[3] end print(f(1, 2, 3))", "3 3 3\n");
        // Fields are put in as they come: they are no list.
        tries("local t = {f(40)} t[40] = 1 return #t", "true 0\n");
        tries("local t = {1, (f(40)), unpack({1, 2, 3})} return t[3], t[5]", "true 1 3\n");
        tries("return #{1, 2, 3, 4, 5, 6, 7, 8, 9, 10, 11, 12, 13, 14, 15, 16, 17, 18, 19, 20, 21, 22, 23, 24, 25, 26, 27, 28, 29, 30, 31, 32, 33, 34, 35, 36, 37, 38, 39, 40, 41}", "true 41\n");
    }

    private static void adjusting() {
        BENCH.writes("local a, b, c = 1 print(a, b, c) a, b = 1, 2, 3 print(a, b) a, b, c = (function() return 7, 8 end)() print(a, b, c)", "1 nil nil\n1 2\n7 8 nil\n");
        BENCH.writes("local function n() end local a, b = n(), n() print(a, b) print(n(), n()) print((n()))", "nil nil\nnil\nnil\n");
        BENCH.writes("local function two() return 1, 2 end print(two(), two()) print((two())) print(({two(), two()})[3] == nil)", "1 1 2\n1\nfalse\n");
        BENCH.writes("local function e(...) return ..., ... end print(e()) print(e(1)) print(e(1, 2))", "nil\n1 1\n1 1 2\n");
        BENCH.writes("local function p(a, b, ...) return a, b, ... end print(p()) print(p(1)) print(p(1, 2)) print(p(1, 2, 3, nil))", "nil nil\n1 nil\n1 2\n1 2 3 nil\n");
        BENCH.writes("local function none(...) return select('#', ...) end print(none(), none(nil), none(nil, nil), none((none())))", "0 1 2 1\n");
    }

    private static void fields() {
        BENCH.writes("local t = {[1] = 'a', 'b', [2] = 'c'} print(t[1], t[2])", "b c\n");
        BENCH.writes("local t = {nil, nil, 3, nil} print(#t, t[3], next(t))", "0 3 3 3\n");
        BENCH.writes("local t = {x = 1, x = nil, y = nil} print(t.x, next(t, 'x'))", "1 nil\n");
        BENCH.writes("local function f() return 1, nil, 3 end local t = {f(), f()} print(t[1], t[2], t[3], t[4])", "1 1 nil 3\n");
        BENCH.writes("local t = {(function() return 1, 2 end)(), n = 5} print(#t, t.n)", "1 5\n");
        BENCH.writes("local t = {n = 5, (function() return 1, 2 end)()} print(#t, t.n)", "2 5\n");
        BENCH.writes("local t = {(function() return 1, 2 end)(),} print(#t) t = {(function() return 1, 2 end)();} print(#t)", "2\n2\n");
        BENCH.writes("print(pcall(function() return {[nil] = 1} end)) print(pcall(function() return {[nil] = nil} end))", "false nil key\nfalse nil key\n");
        BENCH.writes("print(pcall(function() return {[nil] = print(1)} end)) print(pcall(function() return {print(1), [nil] = 1, print(2)} end))", "1\nfalse nil key\n1\nfalse nil key\n");
        BENCH.writes("local t = {[false] = 1, [true] = 2, [print] = 3, [''] = 4, [-1] = 5, [0] = 6} print(t[false], t[true], t[print], t[''], t[-1], t[0])", "1 2 3 4 5 6\n");
        // Raw: no meta table is asked, of which a table that is being made has none.
        BENCH.writes("local m = {__newindex = print} local t = setmetatable({1, x = 2}, m) print(t[1], t.x)", "1 2\n");
    }

    private static void orderOfTargets() {
        BENCH.writes("local t = {} t.x, t.x = 1, 2 print(t.x) x, x, x = 1, 2, 3 print(x) local a a, a = 5, 6 print(a)", "1\n1\n5\n");
        BENCH.writes("local i, t = 1, {} i, t[i], t[i + 1] = i + 5, i, i + 1 print(i, t[1], t[2], t[6])", "6 1 2 nil\n");
        BENCH.writes("local t = {1} local u = t t, t[1] = {9}, 5 print(t[1], u[1])", "9 5\n");
        BENCH.writes("print(pcall(function() local t = {} t.x, nope.y = 1, 2 end))", "false no table\n");
        // The last target is set first: so the one ahead of it is not set if that fails.
        BENCH.writes("local t = {} print(pcall(function() t.x, nope.y = 1, 2 end)) print(t.x)", "false no table\nnil\n");
        BENCH.writes("local t = {} print(pcall(function() nope.y, t.x = 1, 2 end)) print(t.x)", "false no table\n2\n");
        BENCH.writes("print(pcall(function() nope[print(1)] = print(2) end))", "1\n2\nfalse no table\n");
        BENCH.writes("print(pcall(function() function nope.x() end end)) print(pcall(function() function nope.x.y() end end))", "false no table\nfalse no table\n");
    }

    private static void namesInScope() {
        BENCH.writes("local x = 1 local x, y = x + 1, x print(x, y)", "2 1\n");
        BENCH.writes("local x = 1 for x = x, x + 1 do print(x) local x = 9 end print(x)", "1\n2\n1\n");
        BENCH.writes("local k = {5} for k, v in pairs(k) do print(k, v) end print(type(k))", "1 5\ntable\n");
        BENCH.writes("local x = 1 repeat local x = 2 until x == 2 print(x)", "1\n");
        BENCH.writes("local x = 1 do local x = 2 end if x == 1 then local x = 3 end while x == 1 do local x = 4 break end print(x)", "1\n");
        BENCH.writes("local function f() return f end print(f() == f) local g = function() return g end print(g())", "true\nnil\n");
        BENCH.writes("local function f(x, x) return x end print(f(1, 2)) local function g(...) local x, x = ... return x end print(g(1, 2))", "2\n2\n");
        BENCH.writes("function f() return y end y = 1 local y = 2 print(f(), y) y = 3 print(f(), y)", "1 2\n1 3\n");
        BENCH.writes("local t = {} function t:m() self = 5 return self end print(t:m(), self)", "5 nil\n");
        BENCH.writes("local t = {} function t.m() return self end print(t:m())", "nil\n");
        // Procedures in procedures keep those around both, in whatever order they name them.
        BENCH.writes("local a, b, c, d = 1, 2, 3, 4 local f = function() return function() return c, d, a, b end end print(f()()) local g = function() local x = b return function() return function() return d, x, c, a end end end print(g()()())", "3 4 1 2\n4 2 3 1\n");
        BENCH.writes("local a, b, c = 1, 2, 3 local function f() local d, e = 4, 5 return function() c, e = c + 1, e + 1 return e, d, c, b, a end end local g, h = f(), f() g() print(g()) print(h()) print(a, b, c)", "7 4 5 2 1\n6 4 6 2 1\n1 2 6\n");
        // Each round has variables of its own, which procedures keep.
        BENCH.writes("local t = {} for i = 1, 3 do t[i] = function(v) i = v or i return i end end t[1](7) print(t[1](), t[2](), t[3]())", "7 2 3\n");
        BENCH.writes("local t = {} local n = 0 repeat n = n + 1 local k = n t[n] = function() k = k + 10 return k end until k == 2 t[1]() print(t[1](), t[2]())", "21 12\n");
    }

    private static void loopsThatBreak() {
        // A break leaves its own loop: those ahead of an inner one, in it, and behind it.
        BENCH.writes("for i = 1, 3 do if i == 2 then break end while true do break end print(i) end print('out')", "1\nout\n");
        BENCH.writes("for i = 1, 2 do for j = 1, 3 do if j == 2 then break end print(i, j) end if i == 2 then break end print('behind') end", "1 1\nbehind\n2 1\n");
        BENCH.writes("local n = 0 while true do n = n + 1 if n > 3 then break end repeat if n == 2 then break end print(n) until true for k in pairs({1}) do if n == 3 then break end print('k') end end print(n)", "1\nk\nk\n3\n4\n");
        BENCH.writes("repeat local x = 1 if x then break end repeat break until true until print('no')", "");
        BENCH.writes("while true do while true do while true do break end break end break end print('all')", "all\n");
        BENCH.writes("local f = function() for i = 1, 9 do if i == 3 then return i end end end print(f())", "3\n");
    }

    /** What is tested or counted with is a name or a member alone. */
    private static void plainExps() {
        BENCH.writes("local x, y = 0, {z = 0} repeat x = x + 1 local done = x == 3 until done print(x) repeat x = x - 1 y.z = x == 0 until y.z print(x)", "3\n0\n");
        BENCH.writes("local x = 3 while x do x = x > 1 and x - 1 end print(x) local t = {x = 1} while t.x do t.x = nil end print(t.x)", "false\nnil\n");
        BENCH.writes("local a, b, c = 1, 5, 2 for i = a, b, c do print(i) end local t = {a = 1, b = 2, c = 1} for i = t.a, t.b, t.c do print(i) end", "1\n3\n5\n1\n2\n");
        BENCH.writes("local x, t = nil, {y = 1} if x then print(1) elseif t.x then print(2) elseif t.y then print(3) end if t then print(4) end", "3\n4\n");
        BENCH.writes("local f, s, t = next, {5}, {} t.f, t.s = f, s for k in f, s do print(k) end for k, v in t.f, t.s do print(v) end", "1\n5\n");
        BENCH.writes("local a, t = 1, {b = 2} local x, y, z = a, t.b, a print(x, y, z) x, y, z = t.b, a, t.b print(x, y, z) print({a, t.b} ~= a, ({t.b, a})[1], ({x = t.b}).x, ({[a] = t})[a] == t)", "1 2 1\n2 1 2\ntrue 2 2 true\n");
        BENCH.writes("local a, t = 1, {b = 2} local function f() return a, t.b end print(f()) print(a, t.b, -a, -t.b, a + t.b, t.b .. a, not a, #t, a and t.b)", "1 2\n1 2 -1 -2 3 21 false 0 2\n");
        BENCH.writes("repeat local x = ... until not x print((...)) for i = 1, ... or 2 do print(i) end", "nil\n1\n2\n");
    }

    private static void forsWithNumbers() {
        BENCH.writes("for i = 1, 1 do print(i) end for i = 1, 0 do print(i) end for i = 1, 0, -1 do print(i) end for i = 1, 2, -1 do print(i) end", "1\n1\n0\n");
        BENCH.writes("for i = 1, 10, 4 do print(i) end for i = 1, 9, 4 do print(i) end for i = 1, 8, 4 do print(i) end", "1\n5\n9\n1\n5\n9\n1\n5\n");
        BENCH.writes("for i = 10, 1, -4 do print(i) end for i = 10, 2, -4 do print(i) end for i = 10, 3, -4 do print(i) end", "10\n6\n2\n10\n6\n2\n10\n6\n");
        BENCH.writes("for i = 0, 0, 5 do print(i) end for i = 0, 0, -5 do print(i) end for i = -1, 1 do print(i) end", "0\n0\n-1\n0\n1\n");
        String[] wrong = {"'1', 2", "1, '2'", "1, 2, '1'", "nil, 2", "1, nil", "1, 2, nil", "{}, 2", "1, true", "false, 0, 0", "1, {}, 0", "nil, nil, nil", "print, 1"};
        for (String three : wrong) {
            BENCH.writes("print(pcall(function() for i = " + three + " do print(i) end end))", "false no number\n");
        }
        BENCH.writes("print(pcall(function() for i = 1, 2, 0 do print(i) end end)) print(pcall(function() for i = 2, 1, 0 do print(i) end end))", "false step is zero\nfalse step is zero\n");
        BENCH.writes("print(pcall(function() for i = print(1), print(2), print(3) do end end))", "1\n2\n3\nfalse no number\n");
        // What is set in a round changes nothing of the next one.
        BENCH.writes("for i = 1, 3 do print(i) i = i + 5 end local n = 2 for i = 1, n do n = 9 print(i) end", "1\n2\n3\n1\n2\n");
    }

    private static void forsThatWrap() {
        String most = "9223372036854775807";
        String least = "-9223372036854775807 - 1";
        BENCH.writes("local n = 0 for i = " + most + " - 2, " + most + " do n = n + 1 end print(n)", "3\n");
        BENCH.writes("local n = 0 for i = " + most + ", " + most + " do n = n + 1 end print(n)", "1\n");
        BENCH.writes("local n = 0 for i = " + least + ", " + least + " do n = n + 1 end print(n)", "1\n");
        BENCH.writes("local n = 0 for i = " + least + ", " + least + ", -1 do n = n + 1 end print(n)", "1\n");
        BENCH.writes("local n = 0 for i = " + least + " + 2, " + least + ", -1 do n = n + 1 end print(n)", "3\n");
        BENCH.writes("for i = " + most + " - 5, " + most + ", 3 do print(i) end", "9223372036854775802\n9223372036854775805\n");
        BENCH.writes("for i = " + most + " - 6, " + most + ", 3 do print(i) end", "9223372036854775801\n9223372036854775804\n9223372036854775807\n");
        BENCH.writes("for i = " + least + " + 5, " + least + ", -3 do print(i) end", "-9223372036854775803\n-9223372036854775806\n");
        BENCH.writes("for i = 1, " + most + ", " + most + " do print(i) end", "1\n");
        BENCH.writes("for i = 0, " + most + ", " + most + " do print(i) end", "0\n" + most + "\n");
        BENCH.writes("for i = -1, " + least + ", " + least + " do print(i) end", "-1\n");
        BENCH.writes("for i = 0, " + least + ", " + least + " do print(i) end", "0\n-9223372036854775808\n");
        BENCH.writes("for i = " + most + ", " + least + ", " + least + " do print(i) end", most + "\n-1\n");
        BENCH.writes("for i = " + least + ", " + most + ", " + most + " do print(i) end", "-9223372036854775808\n-1\n9223372036854775806\n");
    }

    private static void forsIn() {
        BENCH.writes("for a, b in function(s, c) print(s, c) end, 1, 2, 3 do print('no') end", "1 2\n");
        BENCH.writes("for a, b in function(s, c) print(s, c) end do print('no') end", "nil nil\n");
        BENCH.writes("local n = 0 for a, b, c in function() n = n + 1 if n == 1 then return 1, 2, 3, 4 elseif n == 2 then return false end end do print(a, b, c) end", "1 2 3\nfalse nil nil\n");
        BENCH.writes("for a in function(s, c) if c ~= 3 then return (c or 0) + 1, 9 end end do print(a) a = 7 end", "1\n2\n3\n");
        BENCH.writes("for a, b in function() return nil, 1 end do print('no') end print('ok')", "ok\n");
        String[] wrong = {"nil", "1", "'a'", "{}", "true", "create(function() end)"};
        for (String f : wrong) {
            BENCH.writes("print(pcall(function() for a in " + f + " do end end))", "false no call\n");
        }
        BENCH.writes("for a in setmetatable({}, {__call = function(t, s, c) if c == nil then return s end end}), 5 do print(a) end", "5\n");
        BENCH.writes("for a, b in wrap(function(s, c) print(s, c) s, c = yield(1, 2) print(s, c) end), 's', 'c' do print(a, b) end", "s c\n1 2\ns 1\n");
    }

    private static void stepsOfMembers() {
        String chain = "local c = {x = 'end'} for i = 1, %d do c = setmetatable({}, {__index = c}) end print(pcall(function() return c.x, c.y end))";
        BENCH.writes(chain.replace("%d", "1"), "true end nil\n");
        BENCH.writes(chain.replace("%d", "9"), "true end nil\n");
        BENCH.writes(chain.replace("%d", "10"), "true end nil\n");
        BENCH.writes(chain.replace("%d", "11"), "false too deep\n");
        BENCH.writes(chain.replace("%d", "12"), "false too deep\n");
        // What is found on the way ends it.
        String early = "local c = {} for i = 1, 30 do c = setmetatable(i == 20 and {x = 1} or {}, {__index = c}) end print(pcall(function() return c.x end))";
        BENCH.writes(early, "true 1\n");
        BENCH.writes(early.replace("20", "19"), "false too deep\n");
        // A procedure that answers is asked behind the tenth step, too; what is no table is not reached behind it.
        String asked = "local c = %s for i = 1, %d do c = setmetatable({}, {__index = c}) end print(pcall(function() return c.x end))";
        BENCH.writes(asked.replace("%s", "function(t, k) return k end").replace("%d", "11"), "true x\n");
        BENCH.writes(asked.replace("%s", "function(t, k) return k end").replace("%d", "12"), "false too deep\n");
        BENCH.writes(asked.replace("%s", "5").replace("%d", "1"), "false no table\n");
        BENCH.writes(asked.replace("%s", "5").replace("%d", "10"), "false no table\n");
        BENCH.writes(asked.replace("%s", "5").replace("%d", "11"), "false too deep\n");
        BENCH.writes("local c = {} setmetatable(c, {__index = c}) print(pcall(function() return c.x end), pcall(function() return c[nil] end))", "false false too deep\n");
        // What answers is called with both, the table that it answers for being the last one of the chain.
        BENCH.writes("local u = setmetatable({}, {__index = function(...) return select('#', ...) end}) print(setmetatable({}, {__index = u}).x, u.x)", "2 2\n");
        BENCH.writes("local u u = setmetatable({}, {__index = function(t, k) return t == u and k end}) print(setmetatable({}, {__index = setmetatable({}, {__index = u})}).x)", "x\n");
        String[] none = {"nil", "true", "1", "'a'", "print", "function() end", "create(function() end)", "wrap(function() end)"};
        for (String value : none) {
            BENCH.writes("local v = " + value + " print(pcall(function() return v.x end)) print(pcall(function() v.x = 1 end)) print(pcall(function() return v:x() end))", Bench.times("false no table\n", 3));
        }
        // What a meta table has is looked for raw.
        BENCH.writes("local m = setmetatable({}, {__index = {__index = {x = 1}, __add = print, __call = print}}) local t = setmetatable({}, m) print(t.x, pcall(function() return t + 1 end)) print(pcall(t))", "nil false no number\nfalse no call\n");
    }

    private static void stepsOfSettings() {
        String chain = "local u = {} local c = u for i = 1, %d do c = setmetatable({}, {__newindex = c}) end print(pcall(function() c.x = 1 end)) print(u.x, rawget(c, 'x'))";
        BENCH.writes(chain.replace("%d", "1"), "true\n1 nil\n");
        BENCH.writes(chain.replace("%d", "10"), "true\n1 nil\n");
        BENCH.writes(chain.replace("%d", "11"), "false too deep\nnil nil\n");
        String early = "local c = {} for i = 1, 30 do c = setmetatable(i == 20 and {x = 1} or {}, {__newindex = c}) end print(pcall(function() c.x = 2 end))";
        BENCH.writes(early, "true\n");
        BENCH.writes(early.replace("20", "19"), "false too deep\n");
        String asked = "local c = %s for i = 1, %d do c = setmetatable({}, {__newindex = c}) end print(pcall(function() c.x = 7 end))";
        BENCH.writes(asked.replace("%s", "print").replace("%d", "11"), "table x 7\ntrue\n");
        BENCH.writes(asked.replace("%s", "print").replace("%d", "12"), "false too deep\n");
        BENCH.writes(asked.replace("%s", "5").replace("%d", "10"), "false no table\n");
        BENCH.writes(asked.replace("%s", "5").replace("%d", "11"), "false too deep\n");
        BENCH.writes("local t = setmetatable({}, {__newindex = wrap(function(...) print(select('#', ...), select(2, ...)) end)}) t.x = nil", "3 x nil\n");
    }

    private static void keysAndValues() {
        BENCH.writes("print(pcall(function() local t = {} t[nil] = 1 end)) print(pcall(function() local t = {} t[nil] = nil end)) print(({})[nil])", "false nil key\nfalse nil key\nnil\n");
        BENCH.writes("local t = setmetatable({}, {__newindex = {}}) print(pcall(function() t[nil] = 1 end))", "false nil key\n");
        BENCH.writes("local t = setmetatable({}, {__newindex = print, __index = function(t, k) return k == nil end}) t[nil] = 1 print(t[nil])", "table nil 1\ntrue\n");
        BENCH.writes("local t = {x = 1} setmetatable(t, {__newindex = print, __index = print}) t.x = 2 t.x = nil t.x = 3 print(t.x)", "table x 3\ntable x\nnil\n");
        BENCH.writes("local t = {x = false} setmetatable(t, {__newindex = print, __index = print}) print(t.x) t.x = true print(t.x)", "false\ntrue\n");
        BENCH.writes("local t = {} t[1], t['1'], t[-0] = 'n', 's', 'z' print(t[1], t['1'], t[0], t[0x1], t[true])", "n s z n nil\n");
        BENCH.writes("local a, b = {}, {} local t = {[a] = 1, [b] = 2} print(t[a], t[b], t[{}])", "1 2 nil\n");
        BENCH.writes("local t = {} t[9223372036854775807] = 1 t[-9223372036854775807 - 1] = 2 print(t[9223372036854775807], t[9223372036854775807 + 1])", "1 2\n");
        BENCH.writes("local t = {['a' .. 'b'] = 1} print(t.ab, t['a' .. 'b'], t[sub('cabd', 2, 3)])", "1 1 1\n");
    }

    private static void wrappingNumbers() {
        String most = "9223372036854775807";
        BENCH.writes("local m = " + most + " local l = -m - 1 print(m + 1 == l, l - 1 == m, m + m, l + l, -l == l, l * -1 == l, m * m, l * l)", "true true -2 0 true true 1 0\n");
        BENCH.writes("print(4294967296 * 4294967296, 3037000500 * 3037000500, 0x7fffffffffffffff + 1, 0xffffffffffffffff + 1)", "0 -9223372036709301616 -9223372036854775808 0\n");
        BENCH.writes("print(-0, 0 - 0, 1 - 1 == 0, -" + most + " - 1)", "0 0 true -9223372036854775808\n");
    }

    private static void divisions() {
        BENCH.writes("print(0 // 1, 1 // 1, -1 // 1, 1 // -1, 1 // 2, -1 // 2, 1 // -2, -1 // -2)", "0 1 -1 -1 0 -1 -1 0\n");
        BENCH.writes("print(0 % 1, 5 % 5, -5 % 5, 4 % 5, -4 % 5, 4 % -5, -4 % -5, 6 % -5)", "0 0 0 4 1 -1 -4 -4\n");
        BENCH.writes("local m = 9223372036854775807 local l = -m - 1 print(l // -1, l % -1, m // -1, m % -1, l // l, m // l, l // m) print(m % l, l % m)",
                "-9223372036854775808 0 -9223372036854775807 0 1 -1 -2\n-1 9223372036854775806\n");
        for (String sign : new String[] {"//", "%"}) {
            for (String left : new String[] {"0", "1", "-1", "9223372036854775807"}) {
                BENCH.writes("print(pcall(function() return " + left + " " + sign + " 0 end))", "false division by zero\n");
            }
            BENCH.writes("print(pcall(function() return 'a' " + sign + " 0 end))", "false no number\n");
            BENCH.writes("print(pcall(function() return 0 " + sign + " nil end))", "false no number\n");
        }
    }

    private static void orders() {
        BENCH.writes("print(1 < 1, 1 <= 1, 1 > 1, 1 >= 1, 0 < 1, 1 < 0, 0 <= 1, 1 <= 0)", "false true false true true false true false\n");
        BENCH.writes("local m = 9223372036854775807 print(-m - 1 < m, m < -m - 1, m <= m, -1 < 0, -2 < -1)", "true false true true true\n");
        BENCH.writes("print('' < '', '' <= '', '' < 'a', 'a' < '', 'a' < 'a', 'a' <= 'a', 'a' < 'aa', 'aa' < 'a', 'ab' < 'b')", "false true true false false true true false true\n");
        BENCH.writes("print('a' < 'B', 'a' > 'B', '\\127' < '\\128', '\\128' < '\\127', '\\255' > '\\0', 'a\\0' > 'a', '10' < '9', 'a' >= 'b', 'b' >= 'a')", "false true true false true true true false true\n");
        String[] pairs = {"1, '1'", "'1', 1", "nil, nil", "true, false", "{}, {}", "{}, 1", "print, print", "1, nil", "'a', nil"};
        for (String pair : pairs) {
            for (String sign : new String[] {"<", "<=", ">", ">="}) {
                BENCH.writes("print(pcall(function(a, b) return a " + sign + " b end, " + pair + "))", "false no order\n");
            }
        }
    }

    private static void likeness() {
        BENCH.writes("print(nil == nil, nil == false, false == false, true == true, 1 == 1, 1 == '1', '' == '', 'a' .. 'b' == 'ab', 0 == false)", "true false true true true false true true false\n");
        BENCH.writes("local t, f, s = {}, function() end, create(function() end) print(t == t, t == {}, f == f, f == function() end, s == s, print == print, print == type)", "true false true false true true false\n");
        BENCH.writes("print(nil ~= nil, 1 ~= 2, 'a' ~= 'a', {} ~= {}, print ~= print)", "false true false true false\n");
        BENCH.writes("local function f() return function() end end print(f() == f(), rep('a', 1000) == rep('a', 999) .. 'a')", "false true\n");
        // Only of two tables that are not one is a meta table asked.
        BENCH.writes("local m = {__eq = function() print('asked') return 1 end} local t = setmetatable({}, m) print(t == t, t == 1, 1 == t, t == nil, t == 'a', t == print)", "true false false false false false\n");
        BENCH.writes("local m = {__eq = function() print('asked') return 1 end} local t = setmetatable({}, m) print(t == {}, {} == t, t ~= {})", "asked\nasked\nasked\ntrue true false\n");
        BENCH.writes("local m = {__eq = function() return nil end} print(setmetatable({}, m) == {}, setmetatable({}, m) ~= {}, {} == setmetatable({}, {__eq = function() end}))", "false true false\n");
        // Only NIL and FALSE are not true.
        BENCH.writes("for _, v in ipairs({0, '', {}, print, true, -1}) do print(not v, v and 1 or 2) end print(not nil, not false, nil and 1 or 2, false and 1 or 2)", Bench.times("false 1\n", 6) + "true true 2 2\n");
    }

    private static void lengths() {
        BENCH.writes("print(#'', #'a', #rep('a', 1000), #'\\0\\0', #{}, #{1}, #{nil, 2}, #{[0] = 1}, #{[2] = 1})", "0 1 1000 2 0 1 0 0 0\n");
        BENCH.writes("local t = {1, 2, 3} t[2] = nil print(#t) t[1] = nil print(#t) t[1] = 1 print(#t) t[2] = 2 print(#t) t[5] = 5 print(#t) t[4] = 4 print(#t) t[5] = nil print(#t)", "1\n0\n1\n3\n3\n5\n4\n");
        BENCH.writes("local t = {5} t[5] = 1 t[5] = nil print(#t) t[0] = 1 t[0] = nil print(#t) t[-3] = 1 t[-3] = nil print(#t) t.x = 1 t.x = nil print(#t) t[true] = 1 t[true] = nil print(#t)", Bench.times("1\n", 5));
        BENCH.writes("local t = {} for i = 1, 200 do t[i] = i end t.x, t[0], t[999] = 1, 1, 1 print(#t) t.x, t[0], t[999] = nil print(#t) t[150] = nil print(#t) t[100] = nil print(#t) t[150] = 1 print(#t) t[100] = 1 print(#t)", "200\n200\n149\n99\n99\n200\n");
        BENCH.writes("local t = {} for i = 20, 1, -1 do t[i] = i if i < 3 then print(#t) end end", "0\n20\n");
        BENCH.writes("local t = {} for i = 1, 20 do t[i] = i end for i = 20, 1, -1 do t[i] = nil if #t ~= i - 1 then print(i) end end print(#t)", "0\n");
        BENCH.writes("for _, v in ipairs({1, true, print, create(function() end)}) do print(pcall(function() return #v end)) end print(pcall(function() return #nil end))", Bench.times("false no length\n", 5));
    }

    private static void metaTablesOfSigns() {
        String[] signs = {"+ add", "- sub", "* mul", "// div", "% mod", ".. concat"};
        String[] rights = {"t", "1", "'a'", "nil", "{}", "print", "true"};
        for (String pair : signs) {
            String sign = pair.split(" ")[0];
            String name = "__" + pair.split(" ")[1];
            String t = "local t = setmetatable({}, {" + name + " = function(...) return select('#', ...), 'second' end}) ";
            for (String right : rights) {
                BENCH.writes(t + "print(t " + sign + " " + right + ", (" + right + ") " + sign + " t)", "2 2\n");
            }
            String complaint = sign.equals("..") ? "no string" : "no number";
            BENCH.writes("print(pcall(function() return {} " + sign + " 1 end)) print(pcall(function() return 1 " + sign + " nil end))", Bench.times("false " + complaint + "\n", 2));
            BENCH.writes("local t, u = setmetatable({}, {" + name + " = function() return 'l' end}), setmetatable({}, {" + name + " = function() return 'r' end}) print(t " + sign + " u, u " + sign + " t)", "l r\n");
            BENCH.writes("print(pcall(function() return setmetatable({}, {" + name + " = 5}) " + sign + " 1 end))", "false no call\n");
            BENCH.writes("local t = setmetatable({}, {" + name + " = function() end}) print(t " + sign + " 1)", "nil\n");
        }
        BENCH.writes("local t = setmetatable({}, {__unm = function(...) return select('#', ...) end, __len = function(a, b) return a == b end}) print(-t, #t)", "2 true\n");
        BENCH.writes("local t = setmetatable({}, {__unm = function(a, b) return rawequal(a, b) end, __len = function(...) return select('#', ...) end}) print(-t, #t)", "true 2\n");
        BENCH.writes("local t = setmetatable({}, {__unm = rawequal, __len = rawequal}) local a, b, c = 'x', 'y', {1, 2, 'z', {}} print(a, b, -t, #t) local function f(...) return 1, -t, 2, #t end print(f({}, {}, {}))", "x y true true\n1 true 2 true\n");
        BENCH.writes("print(pcall(function() return -{} end)) print(pcall(function() return -'1' end)) print(#setmetatable({7}, {__unm = print}))", "false no number\nfalse no number\n1\n");
        // a > b is b < a: the left operand is b then.
        String t = "local function m(n) return setmetatable({}, {__lt = function(a, b) return print(n, type(a), type(b)) end, __le = function(a, b) print(n, type(a), type(b)) return 0 end}) end local l, r = m('l'), m('r') ";
        BENCH.writes(t + "print(l < r, l > r, l <= r, l >= r)", "l table table\nr table table\nl table table\nr table table\nfalse false true true\n");
        BENCH.writes(t + "print(l < 1, l > 1, 1 <= l, 1 >= l)", "l table number\nl number table\nl number table\nl table number\nfalse false true true\n");
        BENCH.writes("print(pcall(function() return setmetatable({}, {__lt = print}) <= 1 end)) print(pcall(function() return setmetatable({}, {__le = print}) < 1 end))", Bench.times("false no order\n", 2));
    }

    private static void sixtyCalls() {
        String deep = "local function r(n) if n > 1 then return r(n - 1) end return 'end' end print(pcall(r, %d)) ";
        // The text, the protected call and 58 are 60.
        BENCH.writes(deep.replace("%d", "58"), "true end\n");
        BENCH.writes(deep.replace("%d", "59"), "false too deep\n");
        BENCH.writes("local function r(n) if n > 1 then return r(n - 1) end return 'end' end print(r(59))", "end\n");
        BENCH.fails("local function r(n) if n > 1 then return r(n - 1) end return 'end' end print(r(60))", "! too deep\n");
        BENCH.writes("local n = 0 local function p() n = n + 1 return pcall(p) end p() print(n)", "30\n");
        BENCH.writes("local function p(n) if n > 1 then return pcall(p, n - 1) end return n end local a = p(30) print(a, select('#', p(30)))", "true 30\n");
        // Those that are through do not count.
        BENCH.writes("local function f() end for i = 1, 200 do f() pcall(f) end print('ok')", "ok\n");
        BENCH.writes("local function r() r() end for i = 1, 5 do print(pcall(r)) end", Bench.times("false too deep\n", 5));
        // By meta tables and fors as well; built-in ones have no place.
        BENCH.writes("local n = 0 local t t = setmetatable({}, {__index = function(s, k) n = n + 1 return t.x end}) print(pcall(function() return t.x end)) print(n)", "false too deep\n57\n");
        BENCH.writes("local n = 0 local function f() n = n + 1 for k in f do end end print(pcall(f)) print(n)", "false too deep\n58\n");
        BENCH.writes("local function r(n) if n > 1 then return r(n - 1) end return type(n), tostring(n), select(2, 1, 2), rawlen('abc') end print(r(59))", "number 1 2 3\n");
        // In a strand there are 60 of its own.
        BENCH.writes("local function r(n) if n > 1 then return r(n - 1) end return 'end' end print(resume(create(r), 60)) print(resume(create(r), 61))", "true end\nfalse too deep\n");
        BENCH.writes("local function r(n) if n > 1 then return r(n - 1) end return 'end' end local function s(n) if n > 1 then return s(n - 1) end return wrap(r)(60) end print(pcall(s, 58))", "true end\n");
    }

    private static void stepsOfCalls() {
        String chain = "local c = function(...) return select('#', ...) end for i = 1, %d do c = setmetatable({}, {__call = c}) end print(pcall(c, 'a'))";
        BENCH.writes(chain.replace("%d", "1"), "true 2\n");
        BENCH.writes(chain.replace("%d", "10"), "true 11\n");
        BENCH.writes(chain.replace("%d", "11"), "false too deep\n");
        BENCH.writes("local c = {} setmetatable(c, {__call = c}) print(pcall(c))", "false too deep\n");
        // What cannot be called behind the tenth step is no step.
        String none = "local c = 5 for i = 1, %d do c = setmetatable({}, {__call = c}) end print(pcall(c))";
        BENCH.writes(none.replace("%d", "10"), "false no call\n");
        BENCH.writes(none.replace("%d", "11"), "false too deep\n");
        BENCH.writes(none.replace("5", "{}").replace("%d", "10"), "false no call\n");
        // Each call begins anew.
        BENCH.writes("local c = function() return 1 end for i = 1, 10 do c = setmetatable({}, {__call = c}) end print(c() + c() + c())", "3\n");
    }

    private static void errorsThatEnd() {
        BENCH.fails("error()", "! nil\n");
        BENCH.fails("error(nil)", "! nil\n");
        BENCH.fails("error(false)", "! false\n");
        BENCH.fails("error(0)", "! 0\n");
        BENCH.fails("error('')", "! \n");
        BENCH.fails("error({})", "! table\n");
        BENCH.fails("error(create(function() end))", "! strand\n");
        BENCH.fails("error(wrap(function() end))", "! function\n");
        BENCH.fails("error(-9223372036854775807 - 1)", "! -9223372036854775808\n");
        BENCH.fails("error(rep('a', 1000))", "! " + Bench.times("a", 1000) + "\n");
        BENCH.fails("error(setmetatable({}, {__tostring = function() return 'x' end}))", "! table\n");
        // The latest protected call that is not through.
        BENCH.writes("print(pcall(function() print(pcall(error, 1)) error(2) end))", "false 1\nfalse 2\n");
        BENCH.writes("print(pcall(function() pcall(type) error(2) end))", "false 2\n");
        BENCH.fails("pcall(error, 1) error(2)", "! 2\n");
        BENCH.fails("pcall(function() end) x.y = 1", "! no table\n");
        // In a strand only those of the strand.
        BENCH.writes("print(pcall(function() return resume(create(function() error('in') end)) end))", "true false in\n");
        BENCH.writes("print(pcall(function() return wrap(function() error('in') end)() end))", "false in\n");
        BENCH.fails("resume(create(function() error('in') end)) error('out')", "! out\n");
        BENCH.writes("local e = {} local _, a = pcall(error, e) local _, b = resume(create(function() error(e) end)) local _, c = pcall(wrap(function() error(e) end)) print(a == e, b == e, c == e)", "true true true\n");
    }
}
