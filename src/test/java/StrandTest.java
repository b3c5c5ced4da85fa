/** Promise 3: strands and wrappers. */
final class StrandTest {
    private static final Bench BENCH = new Bench("StrandTest");

    public static void main(String[] args) {
        stoppingAndGoingOn();
        wrappers();
        states();
        errors();
        protectedCalls();
        yieldsOfOthers();
        depth();
        BENCH.finish();
    }

    private static void stoppingAndGoingOn() {
        BENCH.writes("local s = create(function(a, ...) print(a, ...) print(yield('y', a)) return 'end', 1 end) print(resume(s, 1, 2)) print(resume(s, 3, 4)) print(resume(s))",
                "1 2\ntrue y 1\n3 4\ntrue end 1\nfalse dead strand\n");
        BENCH.writes("local s = create(function() while true do local x = yield() if x then return x end end end) print(resume(s, 9)) print(resume(s)) print(resume(s, 5))", "true\ntrue\ntrue 5\n");
        BENCH.writes("local s = create(function() local t = {1, yield('a'), yield('b')} return #t, t[2], t[3] end) resume(s) resume(s, 'x', 'z') print(resume(s, 'y', 'w'))", "true 4 x y\n");
        BENCH.writes("local s = create(function(n) local function deep(k) if k == 0 then return yield(n) end return deep(k - 1) + 1 end return deep(20) end) print(resume(s, 7)) print(resume(s, 100))", "true 7\ntrue 120\n");
        BENCH.writes("local a a = create(function() local b = create(function() yield('in') return 'out' end) print(resume(b)) yield('mid') print(resume(b)) end) print(resume(a)) print(resume(a))", "true in\ntrue mid\ntrue out\ntrue\n");
        BENCH.writes("local l = {} for i = 1, 20 do l[i] = create(function(a) local b = yield(a * 2) yield(b + i) return i end) resume(l[i], i) end local n = 0 for r = 1, 2 do for i = 20, 1, -1 do local ok, v = resume(l[i], r) n = n + v end end print(n, status(l[3]))", "440 dead\n");
    }

    private static void wrappers() {
        BENCH.writes("local w = wrap(function(a) local b = yield(a + 1) return b * 2, 'e' end) print(w(1)) print(w(5)) print(pcall(w))", "2\n10 e\nfalse dead strand\n");
        BENCH.writes("for i in wrap(function() for i = 1, 3 do yield(i) end end) do print(i) end", "1\n2\n3\n");
        BENCH.writes("local w w = wrap(function() return pcall(w) end) print(w())", "false no strand\n");
        BENCH.writes("local w = wrap(function() error({1}) end) local ok, e = pcall(w) print(ok, e[1])", "false 1\n");
        BENCH.fails("wrap(function() error('up') end)()", "! up\n");
        BENCH.writes("local t = setmetatable({}, {__index = wrap(function(t, k) while true do t, k = yield(k .. '!') end end)}) print(t.a, t.b)", "a! b!\n");
    }

    private static void states() {
        BENCH.writes("local s s = create(function() print(status(s), running() == s) local u = create(function() print(status(s), resume(s)) end) resume(u) print(status(u)) yield() end) print(status(s), running()) resume(s) print(status(s)) resume(s) print(status(s))",
                "suspended nil\nrunning true\nnormal false no strand\ndead\nsuspended\ndead\n");
        BENCH.writes("local s s = create(function() return resume(s) end) print(resume(s))", "true false no strand\n");
    }

    private static void errors() {
        BENCH.writes("local s = create(function() error('e') end) print(resume(s)) print(status(s)) print(resume(s))", "false e\ndead\nfalse dead strand\n");
        BENCH.writes("local s = create(function() local t = nil t.x = 1 end) print(resume(s))", "false no table\n");
        BENCH.writes("local o = create(function() local i = create(function() error('in') end) print(resume(i)) yield(1) end) print(resume(o)) print(status(o))", "false in\ntrue 1\nsuspended\n");
        BENCH.writes("local o = create(function() wrap(function() error('in') end)() end) print(resume(o)) print(status(o))", "false in\ndead\n");
        BENCH.writes("print(pcall(yield)) print(pcall(yield, 1))", "false no strand\nfalse no strand\n");
        BENCH.fails("yield(1)", "! no strand\n");
    }

    private static void protectedCalls() {
        BENCH.writes("local s = create(function() print(pcall(yield, 1)) print(pcall(function() yield(2) end)) yield(3) end) print(resume(s))", "false no strand\nfalse no strand\ntrue 3\n");
        BENCH.writes("local s = create(function() print(pcall(function() return wrap(function() yield('w') end)() end)) end) print(resume(s))", "true w\ntrue\n");
        BENCH.writes("print(pcall(function() local w = wrap(function() yield(1) error('x') end) print(w()) w() end))", "1\nfalse x\n");
    }

    private static void yieldsOfOthers() {
        BENCH.writes("local t = setmetatable({}, {__index = function(t, k) return yield(k) end, __add = function() return yield('add') end, __eq = function() return yield('eq') end, __newindex = function(t, k, v) yield('set', v) end, __tostring = function() return yield('str') end, __call = yield})"
                + " local s = create(function() print(t.x) print(t + 1) print(t == {}) print(t ~= {}) t.y = 5 print(tostring(t)) print(t(7)) for a, b in yield, 's', 'c' do print(a, b) end return 'ok' end)"
                + " print(resume(s)) for i = 1, 8 do print(resume(s, i, 'b')) end print(resume(s))",
                "true x\n1\ntrue add\n2\ntrue eq\ntrue\ntrue eq\nfalse\ntrue set 5\ntrue str\n6 b\ntrue table 7\n7 b\ntrue s c\n8 b\ntrue s 8\ntrue ok\n");
        BENCH.writes("local t = setmetatable({}, {__tostring = yield, __len = yield}) local s = create(function() print(tostring(t)) print(#t) end) print(resume(s)) print(resume(s, 1, 2)) resume(s, 3, 4)", "true table\n1 2\ntrue table table\n3\n");
    }

    private static void depth() {
        String nest = "local function d(n) if n == 0 then return 'end' end return wrap(d)(n - 1) end print(pcall(d, %d))";
        BENCH.heap(8000);
        BENCH.writes(nest.replace("%d", "10"), "true end\n");
        BENCH.writes(nest.replace("%d", "11"), "false too deep\n");
        BENCH.writes("local function d(n) if n == 0 then return 'end' end return resume(create(d), n - 1) end print(d(10)) print(d(11))",
                "true true true true true true true true true true end\ntrue true true true true true true true true false too deep\n");
        BENCH.heap(2000);
    }
}
