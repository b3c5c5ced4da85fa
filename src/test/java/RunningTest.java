/** Promise 3: lists, order, names, loops, members, signs, calls and errors. */
final class RunningTest {
    private static final Bench BENCH = new Bench("RunningTest");

    public static void main(String[] args) {
        lists();
        tooManyValues();
        order();
        names();
        loops();
        members();
        settings();
        signs();
        metaSigns();
        calls();
        errors();
        rows();
        BENCH.finish();
    }

    private static void lists() {
        String f = "local function f() return 1, 2, 3 end ";
        BENCH.writes(f + "print(f(), f()) print((f())) print(f(), 9) print(({f(), f()})[5] == nil)", "1 1 2 3\n1\n1 9\ntrue\n");
        BENCH.writes(f + "local a, b, c, d = f() print(a, b, c, d) local x, y = 0, f() print(x, y)", "1 2 3 nil\n0 1\n");
        BENCH.writes(f + "local t = {f(), f()} print(#t, t[4]) local u = {f(), x = 1, f(),} print(#u, u[2], u[4])", "4 3\n4 1 3\n");
        BENCH.writes("local function g(...) local a, b = ... return (...), ... end print(g()) print(g(1, 2)) print(g(nil))", "nil\n1 1 2\nnil nil\n");
        BENCH.writes("local function h(a, ...) return select('#', ...), a end print(h()) print(h(1, nil, nil))", "0 nil\n2 1\n");
        BENCH.writes("local function n() end print(n()) print((n())) print(n(), 1) local a = n() print(a)", "\nnil\nnil 1\nnil\n");
        BENCH.writes("print(#{nil, 2}, #{1, nil, 3}, ({1, nil, 3})[3])", "0 1 3\n");
    }

    private static void tooManyValues() {
        String forty = "local function f() return unpack({}, 1, 40) end ";
        BENCH.writes(forty + "print(select('#', pcall(select, 2, unpack({}, 1, 37))))", "37\n");
        BENCH.writes(forty + "local a = f() print(pcall(function() local b = 1, f() end))", "false too many values\n");
        BENCH.writes(forty + "print(pcall(function() return 1, f() end)) print(pcall(function() print(1, f()) end))", "false too many values\nfalse too many values\n");
        BENCH.writes(forty + "print(#{1, f()}, pcall(function() x = 1, f() end))", "1 false too many values\n");
        BENCH.writes(forty + "local t = {m = function(...) return 7 end} print(t:m(f()), pcall(function() t:m(1, f()) end))", "7 false too many values\n");
        BENCH.fails(forty + "print(1) pcall(f)", "1\n! too many values\n");
        BENCH.writes(forty + "print(pcall(pcall, f)) print(pcall(resume, create(f)))", "false too many values\nfalse too many values\n");
        BENCH.writes(forty + "print(select('#', unpack({}, 1, 39)), pcall(function() return select('#', unpack({}, 1, 40)) end))", "39 false too many values\n");
        BENCH.writes(forty + "local w = wrap(f) local a = w() print(a, pcall(w))", "nil false dead strand\n");
        BENCH.writes("local t = {m = assert} print(pcall(function() return t:m(unpack({}, 1, 40)) end))", "false too many values\n");
    }

    private static void order() {
        String say = "local function s(x, ...) print(x) return ... end ";
        BENCH.writes(say + "local t = {} s(1, t)[s(2, 'k')], s(3, t)[s(4, 'l')] = s(5, 1), s(6, 2)", "1\n2\n3\n4\n5\n6\n");
        BENCH.writes(say + "local x = s(1, 1) + s(2, 2) * s(3, 3) print(s(4, 1) > s(5, 2))", "1\n2\n3\n4\n5\nfalse\n");
        BENCH.writes(say + "local t = {s(1), [s(2, 1)] = s(3), x = s(4), s(5)}", "1\n2\n3\n4\n5\n");
        BENCH.writes("local t = setmetatable({}, {__newindex = function(t, k, v) print(k, v) end}) t.a, t.b, t.c = 1, 2", "c nil\nb 2\na 1\n");
        BENCH.writes("local a = {} a[1], a[1], a[1] = 1, 2, 3 print(a[1]) local i = 1 i, a[i] = 2, 9 print(i, a[1], a[2])", "1\n2 9 nil\n");
        BENCH.writes("local a, b = 1, 2 a, b = b, a print(a, b)", "2 1\n");
        BENCH.writes(say + "local t = {m = function(...) return select('#', ...) end} print(s(1, t):m(s(2, 5), s(3, 6)))", "1\n2\n3\n3\n");
        BENCH.writes("print(pcall(function() return {[nil] = error('first')} end))", "false first\n");
        BENCH.writes("print(pcall(function() return {[nil] = nil} end)) print(({x = 1, x = nil}).x, next({[1] = nil}))", "false nil key\n1 nil\n");
        BENCH.writes("local t = {[1] = 'a', 'b'} print(t[1]) t = {'b', [1] = 'a'} print(t[1])", "b\na\n");
        BENCH.writes(say + "print(pcall(function() local t function t.x() end end)) print(pcall(function() s(1).x = s(2) end))", "false no table\n1\n2\nfalse no table\n");
        BENCH.writes("local t = {} local function f() t = nil return 1 end t.x = f() print(t)", "nil\n");
    }

    private static void names() {
        BENCH.writes("local x = 1 local x = x + 1 do local x = x + 1 print(x) end print(x)", "3\n2\n");
        BENCH.writes("local a, a = 1, 2 print(a) local function f(b, b) return b end print(f(1, 2))", "2\n2\n");
        BENCH.writes("x = 1 local function f() return x end local x = 2 print(f(), x)", "1 2\n");
        BENCH.writes("local f = function() return f end print(f()) local function g() return g end print(g() == g)", "nil\ntrue\n");
        BENCH.writes("local o = {} for i = 1, 3 do local j = i * 2 o[i] = function() i = i + 1 j = j + 1 return i, j end end print(o[1]()) print(o[1]()) print(o[3]())", "2 3\n3 4\n4 7\n");
        BENCH.writes("local o = {} for k, v in pairs({5, 6}) do o[k] = function() v = v + 1 return v end end print(o[1](), o[1](), o[2]())", "6 7 7\n");
        BENCH.writes("local i = 0 local o = {} repeat local j = i o[i] = function() return j end i = i + 1 until j == 2 print(o[0](), o[2]())", "0 2\n");
        BENCH.writes("local o = {} local i = 0 while i < 3 do i = i + 1 local j = i o[i] = function() return j end end print(o[1](), o[2](), o[3]())", "1 2 3\n");
        BENCH.writes("local function c() local n = 0 return function() n = n + 1 return n end, function() return n end end local i, g = c() i() i() print(g()) local j, h = c() print(h())", "2\n0\n");
        BENCH.writes("local a = 1 local function f() return function() a = a + 1 return a end end print(f()(), f()(), a)", "2 3 3\n");
    }

    private static void loops() {
        BENCH.writes("for i = 1, 3 do print(i) i = 9 end for i = 3, 1 do print(0) end for i = 3, 1, -2 do print(i) end", "1\n2\n3\n3\n1\n");
        BENCH.writes("for i = 9223372036854775806, 9223372036854775807 do print(i) end", "9223372036854775806\n9223372036854775807\n");
        BENCH.writes("for i = -9223372036854775807 - 1, 0, 9223372036854775807 do print(i) end", "-9223372036854775808\n-1\n");
        BENCH.writes("for i = 0, -9223372036854775807 - 1, -9223372036854775807 - 1 do print(i) end", "0\n-9223372036854775808\n");
        BENCH.writes("print(pcall(function() for i = 1, '2' do end end)) print(pcall(function() for i = 1, 2, 0 do end end)) print(pcall(function() for i = nil, 2, 0 do end end))", "false no number\nfalse step is zero\nfalse no number\n");
        BENCH.writes("for a, b, c in function(s, c) print(s, c) if c < 2 then return c + 1, 'b' end end, 's', 0 do print(a, b, c) end", "s 0\n1 b nil\ns 1\n2 b nil\ns 2\n");
        BENCH.writes("print(pcall(function() for a in nil do end end)) for a in next, {} do print(a) end", "false no call\n");
        BENCH.writes("local n = 0 while true do n = n + 1 if n > 3 then break end end repeat local d = n == 0 n = n - 1 until d print(n)", "-1\n");
        BENCH.writes("for a in setmetatable({}, {__call = function(t, s, c) if not c then return 1 end end}) do print(a) end", "1\n");
        BENCH.writes("for i = 1, 3 do for j = 1, 3 do if j == 2 then break end print(i, j) end end", "1 1\n2 1\n3 1\n");
    }

    private static void members() {
        BENCH.writes("local t = {} t[t] = 1 t[true] = 2 t[print] = 3 t['1'] = 4 t[1] = 5 print(t[t], t[true], t[print], t['1'], t[1], t[false], t[nil])", "1 2 3 4 5 nil nil\n");
        BENCH.writes("local t = setmetatable({a = 1}, {__index = function(...) print(select('#', ...)) return 'i', 2 end}) print(t.a, t.b)", "2\n1 i\n");
        BENCH.writes("local t = setmetatable({}, {__index = setmetatable({b = 2}, {__index = function(s, k) return k .. '!' end})}) print(t.b, t.c)", "2 c!\n");
        BENCH.writes("local t = setmetatable({}, {__index = rawlen}) print(t.x) t = setmetatable({}, {__index = wrap(function(a, b) return b end)}) print(t.y)", "0\ny\n");
        BENCH.writes("for _, v in pairs({1, 'a', print, true, create(function() end)}) do print(pcall(function() return v.x end)) end print(pcall(function() return nope.x end))",
                "false no table\nfalse no table\nfalse no table\nfalse no table\nfalse no table\nfalse no table\n");
        BENCH.writes("print(pcall(function() return setmetatable({}, {__index = 5}).x end)) print(setmetatable({}, {__index = nil and 1}).x)", "false no table\nnil\n");
        BENCH.writes("print(pcall(function() return setmetatable({}, {__index = false}).x end))", "false no table\n");
        String chain = "local c = {x = 1} for i = 1, %d do c = setmetatable({}, {__index = c}) end print(pcall(function() return c.x end))";
        BENCH.writes(chain.replace("%d", "10"), "true 1\n");
        BENCH.writes(chain.replace("%d", "11"), "false too deep\n");
        BENCH.writes("local c = {} c = setmetatable(c, {__index = c}) print(pcall(function() return c.x end))", "false too deep\n");
        BENCH.writes("local t = {x = 1} setmetatable(t, {__index = function() return 2 end}) t.x = nil print(t.x)", "2\n");
        BENCH.writes("local m = setmetatable({}, {__index = {__index = {x = 1}}}) print(setmetatable({}, m).x)", "nil\n");
    }

    private static void settings() {
        BENCH.writes("local t = setmetatable({a = 1}, {__newindex = function(t, k, v) rawset(t, k, v + 1) end}) t.a, t.b = 5, 5 print(t.a, t.b)", "5 6\n");
        BENCH.writes("local u = {} local t = setmetatable({}, {__newindex = u}) t.a = 1 print(rawget(t, 'a'), u.a)", "nil 1\n");
        BENCH.writes("print(pcall(function() local t = {} t[nil] = 1 end)) print(pcall(function() local t = {} t[nil] = nil end))", "false nil key\nfalse nil key\n");
        BENCH.writes("setmetatable({}, {__newindex = print})[nil] = 7", "table nil 7\n");
        BENCH.writes("print(pcall(function() setmetatable({}, {__newindex = 5}).x = 1 end)) print(pcall(function() (1).x = 1 end))", "false no table\nfalse no table\n");
        String chain = "local u = {} local c = u for i = 1, %d do c = setmetatable({}, {__newindex = c}) end print(pcall(function() c.x = 1 end)) print(u.x)";
        BENCH.writes(chain.replace("%d", "10"), "true\n1\n");
        BENCH.writes(chain.replace("%d", "11"), "false too deep\nnil\n");
        BENCH.writes("local t = {x = 1} setmetatable(t, {__newindex = print}) t.x = nil t.x = 2 print(t.x)", "table x 2\nnil\n");
    }

    private static void signs() {
        BENCH.writes("print(9223372036854775807 + 1, -9223372036854775807 - 2, 9223372036854775807 * 2, - (-9223372036854775807 - 1))",
                "-9223372036854775808 9223372036854775807 -2 -9223372036854775808\n");
        BENCH.writes("print(7 // 2, -7 // 2, 7 // -2, -7 // -2, 7 % 3, -7 % 3, 7 % -3, -7 % -3)", "3 -4 -4 3 1 2 -2 -1\n");
        BENCH.writes("local m = -9223372036854775807 - 1 print(m // -1, m % -1, m // 1)", "-9223372036854775808 0 -9223372036854775808\n");
        BENCH.writes("print(pcall(function() return 1 // 0 end)) print(pcall(function() return 1 % 0 end))", "false division by zero\nfalse division by zero\n");
        BENCH.writes("print(pcall(function() return '1' + 1 end)) print(pcall(function() return - '1' end)) print(pcall(function() return 1 .. nil end))", "false no number\nfalse no number\nfalse no string\n");
        BENCH.writes("print(1 .. -2, 'a' .. 'b' .. 3, -9223372036854775807 - 1 .. '')", "1-2 ab3 -9223372036854775808\n");
        BENCH.writes("print('a' < 'b', 'a' < 'ab', '' < 'a', 'B' < 'a', '\\200' > 'a', 'a' <= 'a', 'b' >= 'c', 2 > 1)", "true true true true true true false true\n");
        BENCH.writes("for _, f in pairs({function() return 1 < 'a' end, function() return nil <= nil end, function() return {} > {} end, function() return true >= false end}) do print(pcall(f)) end",
                "false no order\nfalse no order\nfalse no order\nfalse no order\n");
        BENCH.writes("print(1 == '1', nil == false, 'a' .. 1 == 'a1', {} == {}, print == print, 1 ~= 1, {} ~= {})", "false false true false true false true\n");
        BENCH.writes("print(#'abc', #{1, 2, nil, 4}, #{n = 1}, pcall(function() return #5 end))", "3 2 0 false no length\n");
        BENCH.writes("print(nil and x.y, false and 1, 0 and 2, '' or 3, nil or nil, false or 'z')", "nil false 2  nil z\n");
    }

    private static void metaSigns() {
        String all = "local m = {} for _, n in pairs({'add', 'sub', 'mul', 'div', 'mod', 'concat', 'unm', 'len'}) do m['__' .. n] = function(a, b) return n .. type(a) .. type(b), 2 end end local t = setmetatable({}, m) ";
        BENCH.writes(all + "print(t + 1, 1 - t, t * t, t // 0, 'a' % t)", "addtablenumber subnumbertable multabletable divtablenumber modstringtable\n");
        BENCH.writes(all + "print(t .. 1, nil .. t, -t, #t)", "concattablenumber concatniltable unmtabletable lentabletable\n");
        BENCH.writes("local m = {__lt = function(a, b) print(type(a), type(b)) return 1 end, __le = function() return nil end} local t = setmetatable({}, m) print(t < 1, t > 'a', t <= 1, 1 >= t)", "table number\nstring table\ntrue true false false\n");
        BENCH.writes("local m = {__eq = function(a, b) return 0 end} local t, u = setmetatable({}, m), {} print(t == u, u == t, t ~= u, t == t, t == 1, t ~= 1, rawequal(t, u))", "true true false true false true false\n");
        BENCH.writes("local a, b = setmetatable({}, {__add = function() return 'l' end}), setmetatable({}, {__add = function() return 'r' end}) print(a + b, b + a, 1 + b, {} + b)", "l r r r\n");
        BENCH.writes("print(pcall(function() return setmetatable({}, {__add = 5}) + 1 end)) print(pcall(function() return setmetatable({}, {__lt = 1}) <= 1 end))", "false no call\nfalse no order\n");
        BENCH.writes("local t = setmetatable({}, {__len = function() return nil end, __add = function() end}) print(#t, t + t, rawlen(t))", "nil nil 0\n");
        BENCH.writes("local t = setmetatable({}, {__unm = select, __concat = rawequal, __add = setmetatable({}, {__call = function(...) return select('#', ...) end})}) print(t .. t, t .. 1, t + t)", "true false 3\n");
    }

    private static void calls() {
        BENCH.writes("local function f(a, b) return a, b end print(f(1)) print(f(1, 2, 3))", "1 nil\n1 2\n");
        BENCH.writes("local t = setmetatable({}, {__call = function(...) return select('#', ...), ... end}) print(t(1, 2))", "3 table 1 2\n");
        for (String v : new String[] {"nil", "1", "'a'", "true", "{}", "create(function() end)"}) {
            BENCH.writes("local x = " + v + " print(pcall(function() return x() end)) print(pcall(x))", "false no call\nfalse no call\n");
        }
        String chain = "local c = function(...) return select('#', ...) end for i = 1, %d do c = setmetatable({}, {__call = c}) end print(pcall(function() return c('a') end))";
        BENCH.writes(chain.replace("%d", "10"), "true 11\n");
        BENCH.writes(chain.replace("%d", "11"), "false too deep\n");
        BENCH.writes("local n = 0 local function r() n = n + 1 r() end print(pcall(r)) print(n)", "false too deep\n58\n");
        BENCH.writes("local n = 0 local function r() n = n + 1 return pcall(r) end print(select('#', r())) print(n)", "30\n30\n");
        BENCH.writes("local function r(n) if n > 0 then return r(n - 1) end return 'end' end print(r(58)) print(pcall(r, 58))", "end\nfalse too deep\n");
        BENCH.writes("local n = 0 local w = wrap(function() local function r() n = n + 1 r() end r() end) print(pcall(w)) print(n)", "false too deep\n59\n");
    }

    private static void errors() {
        BENCH.fails("print(1) error('x') print(2)", "1\n! x\n");
        BENCH.fails("error({})", "! table\n");
        BENCH.fails("error()", "! nil\n");
        BENCH.fails("error(false)", "! false\n");
        BENCH.fails("error(-5)", "! -5\n");
        BENCH.fails("error(print)", "! function\n");
        BENCH.fails("local t = setmetatable({}, {__tostring = function() return 'no' end}) error(t)", "! table\n");
        BENCH.fails("x.y = 1", "! no table\n");
        BENCH.writes("print(pcall(error)) print(pcall(error, {} and 5)) print(pcall(pcall, error, 1)) print(pcall(function() pcall(error) error('b') end))", "false nil\nfalse 5\ntrue false 1\nfalse b\n");
        BENCH.writes("local e = {} local ok, v = pcall(error, e) print(v == e) print(select('#', pcall(function() end)))", "true\n1\n");
        BENCH.writes("local t = {} print(pcall(function() t[1] = 1 t[2] = 2 + nil end)) print(#t)", "false no number\n1\n");
    }

    private static void rows() {
        String list = "local function l(t) local s = '' for k in pairs(t) do s = s .. k .. ' ' end return s end ";
        BENCH.writes(list + "local t = {c = 1, 5, b = 2} t.a = 3 print(l(t)) t.c = nil print(l(t)) t.b = 9 print(l(t)) t.c = 1 print(l(t))", "c 1 b a \n1 b a \n1 b a \n1 b a c \n");
        BENCH.writes(list + "local t = {a = 1, b = 2, c = 3} for k in pairs(t) do t[k] = nil end print(l(t)) t.d = 1 print(l(t), pcall(next, t, 'a'))", "\nd  false no key\n");
        BENCH.writes("local t = {a = 1, b = 2} t.a = nil print(next(t, 'a')) print(next(t, 'b')) print(pcall(next, t, 'z')) t.a = 3 print(next(t)) print(next(t, 'b'))", "b 2\nnil\nfalse no key\nb 2\na 3\n");
        BENCH.writes("local t = {1, 2, 3} t[2] = nil print(#t) t[2] = 2 print(#t) t[4] = 4 print(#t, next(t, 3))", "1\n3\n4 2 2\n");
    }
}
