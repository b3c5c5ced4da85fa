/** The boundaries of strands and wrappers (promise 3). */
final class StrandBoundaryTest {
    private static final Bench BENCH = new Bench("StrandBoundaryTest");

    public static void main(String[] args) {
        whatStrandsAreOf();
        statesOfStrands();
        refusedResumes();
        tenWait();
        sixtyCallsOfEach();
        yieldsThatAreErrors();
        yieldsThatAreFine();
        valuesOfResume();
        valuesOfWrappers();
        errorsInStrands();
        runningOnes();
        strandsThatOutliveThings();
        BENCH.finish();
    }

    private static void whatStrandsAreOf() {
        String[] none = {"nil", "true", "1", "'a'", "{}", "print", "type", "create(function() end)", "wrap(function() end)", "setmetatable({}, {__call = print})", "ipairs({})"};
        for (String value : none) {
            BENCH.writes("print(pcall(create, " + value + ")) print(pcall(wrap, " + value + "))", "false bad value\nfalse bad value\n");
        }
        BENCH.writes("print(create(function() end), wrap(function() end), type(create(function() end)), type(wrap(function() end)))", "strand function strand function\n");
        BENCH.writes("local f = function() end print(create(f) == create(f), wrap(f) == wrap(f))", "false false\n");
    }

    private static void statesOfStrands() {
        BENCH.writes("local s = create(function() yield() yield() end) for i = 1, 4 do print(status(s)) resume(s) end", "suspended\nsuspended\nsuspended\ndead\n");
        BENCH.writes("local s s = create(function() print(status(s)) end) resume(s) print(status(s))", "running\ndead\n");
        BENCH.writes("local s s = create(function() wrap(function() print(status(s)) end)() print(status(s)) end) resume(s)", "normal\nrunning\n");
        BENCH.writes("local s = create(function() error() end) print(status(s)) resume(s) print(status(s))", "suspended\ndead\n");
        for (String value : new String[] {"nil", "1", "'a'", "{}", "print", "wrap(function() end)", "function() end"}) {
            BENCH.writes("print(pcall(status, " + value + ")) print(pcall(resume, " + value + "))", "false bad value\nfalse bad value\n");
        }
    }

    private static void refusedResumes() {
        BENCH.writes("local s = create(function() end) resume(s) print(resume(s)) print(resume(s, 1, 2)) print(select('#', resume(s)))", "false dead strand\nfalse dead strand\n2\n");
        BENCH.writes("local s = create(function() error('e') end) print(resume(s)) print(resume(s))", "false e\nfalse dead strand\n");
        BENCH.writes("local s s = create(function() print(resume(s)) end) resume(s)", "false no strand\n");
        BENCH.writes("local s s = create(function() resume(create(function() print(resume(s)) end)) end) resume(s)", "false no strand\n");
        BENCH.writes("local s s = create(function() wrap(function() wrap(function() print(resume(s)) end)() end)() end) resume(s)", "false no strand\n");
        // Of a wrapper it is an error there.
        BENCH.writes("local w = wrap(function() end) w() print(pcall(w))", "false dead strand\n");
        BENCH.writes("local w w = wrap(function() print(pcall(w)) end) w()", "false no strand\n");
        BENCH.writes("local w w = wrap(function() wrap(function() print(pcall(w)) end)() end) w()", "false no strand\n");
        BENCH.fails("local w = wrap(function() end) w() w()", "! dead strand\n");
        BENCH.fails("local w w = wrap(function() w() end) w()", "! no strand\n");
        // A wrapper in a strand: that one is dead, not the wrapper's.
        BENCH.writes("local w w = wrap(function() w() end) local s = create(function() w() end) print(resume(s)) print(status(s))", "false no strand\ndead\n");
    }

    private static void tenWait() {
        BENCH.heap(8000);
        // What is outside of strands waits, and each strand but the last one.
        String nest = "local function d(n) if n > 1 then return wrap(d)(n - 1) end return 'end' end print(pcall(wrap(d), %d))";
        BENCH.writes(nest.replace("%d", "9"), "true end\n");
        BENCH.writes(nest.replace("%d", "10"), "true end\n");
        BENCH.writes(nest.replace("%d", "11"), "false too deep\n");
        BENCH.writes(nest.replace("%d", "50"), "false too deep\n");
        // The error is in the one that resumes, which may protect itself, and goes on.
        String inner = "local function d(n) if n > 1 then return resume(create(d), n - 1) end return 'end' end print(select(%d, d(%d)))";
        BENCH.writes(inner.replace("select(%d", "select(10").replace("%d", "11"), "true end\n");
        BENCH.writes(inner.replace("select(%d", "select(10").replace("%d", "12"), "false too deep\n");
        BENCH.writes("local n = 0 local function d() n = n + 1 local ok, e = pcall(resume, create(d)) if not ok then print(n, e) end return 1 end d()", "11 too deep\n");
        BENCH.writes("local n = 0 local function d() n = n + 1 local ok, e = pcall(wrap(d)) if not ok then print(n, e) end return 1 end d()", "11 too deep\n");
        // The strand that could not begin can begin later.
        BENCH.writes("local last local function d(n) if n > 0 then return wrap(d)(n - 1) end last = create(function() return 'late' end) print(pcall(resume, last)) print(status(last)) end d(10) print(resume(last))", "false too deep\nsuspended\ntrue late\n");
        // Dead ones, and those that run or wait, are told ahead of it.
        BENCH.writes("local dead = create(function() end) resume(dead) local function d(n) if n > 0 then return wrap(d)(n - 1) end print(resume(dead)) print(resume(running())) end d(10)", "false dead strand\nfalse no strand\n");
        // One that goes on waits no longer than it runs.
        BENCH.writes("local s = create(function() while true do yield() end end) for i = 1, 100 do resume(s) end print(status(s))", "suspended\n");
        BENCH.heap(2000);
    }

    private static void sixtyCallsOfEach() {
        BENCH.heap(8000);
        String deep = "local function r(n) if n > 1 then return r(n - 1) end return %s end ";
        BENCH.writes(deep.replace("%s", "yield('deep')") + "local s = create(r) print(resume(s, 60)) print(resume(s, 'on'))", "true deep\ntrue on\n");
        BENCH.writes(deep.replace("%s", "yield('deep')") + "local s = create(r) print(resume(s, 61))", "false too deep\n");
        BENCH.writes(deep.replace("%s", "'end'") + "local s = create(function() yield(1) return r(59) end) print(resume(s)) print(resume(s))", "true 1\ntrue end\n");
        BENCH.writes(deep.replace("%s", "'end'") + "local s = create(function() yield(1) return r(60) end) print(resume(s)) print(resume(s))", "true 1\nfalse too deep\n");
        // Ten strands with sixty each beside the text's own.
        BENCH.heap(8000);
        BENCH.writes("local function d(k, n) if n > 1 then return d(k, n - 1) end if k > 1 then return wrap(d)(k - 1, 60) end return 'all' end print(d(11, 59))", "all\n");
        BENCH.writes("local function d(k, n) if n > 1 then return d(k, n - 1) end if k > 1 then return wrap(d)(k - 1, 61) end return 'all' end print(pcall(d, 2, 58))", "false too deep\n");
        // Protected calls count in a strand, too.
        BENCH.writes("local n = 0 local function p() n = n + 1 return pcall(p) end resume(create(p)) print(n)", "30\n");
        BENCH.heap(2000);
    }

    private static void yieldsThatAreErrors() {
        BENCH.fails("yield()", "! no strand\n");
        BENCH.writes("print(pcall(yield)) print(pcall(yield, 1, 2)) print(pcall(function() yield() end))", Bench.times("false no strand\n", 3));
        BENCH.writes("local s = create(function() print(pcall(yield, 1)) print(pcall(function() return yield(1) end)) print(pcall(pcall, yield)) return 'end' end) print(resume(s))", "false no strand\nfalse no strand\ntrue false no strand\ntrue end\n");
        BENCH.writes("local s = create(function() pcall(type) return yield('free') end) print(resume(s)) print(resume(s, 5))", "true free\ntrue 5\n");
        BENCH.writes("local s = create(function() pcall(error) yield('free') end) print(resume(s))", "true free\n");
        // A protected call around the strand is none of it.
        BENCH.writes("print(pcall(function() local w = wrap(function() yield(1) yield(2) end) return w() + w() end))", "true 3\n");
        BENCH.writes("local s = create(function() return pcall(wrap(function() yield(7) end)) end) print(resume(s))", "true true 7\n");
        // It is dead if it does not protect itself.
        BENCH.writes("local s = create(function() pcall(function() local w = wrap(function() yield(1) end) w() yield(2) end) yield(3) end) print(resume(s)) print(status(s))", "true 3\nsuspended\n");
    }

    private static void yieldsThatAreFine() {
        String[] ways = {"t.x", "t + 1", "1 .. t", "-t", "#t", "t == {}", "t < 1", "1 <= t", "t()", "tostring(t)"};
        String t = "local function y(...) return yield('y') end local t = setmetatable({}, {__index = y, __add = y, __concat = y, __unm = y, __len = y, __eq = y, __lt = y, __le = y, __call = y, __tostring = y, __newindex = y}) ";
        for (String way : ways) {
            boolean compared = way.contains("=") || way.contains("<");
            BENCH.writes(t + "local s = create(function() return " + way + " end) print(resume(s)) print(resume(s, 5, 6)) print(status(s))",
                    "true y\ntrue " + (compared ? "true" : way.contains("()") || way.contains("tostring") ? "5 6" : "5") + "\ndead\n");
        }
        BENCH.writes(t + "local s = create(function() t.x = 1 return 'set' end) print(resume(s)) print(resume(s))", "true y\ntrue set\n");
        BENCH.writes(t + "local s = create(function() for a, b in y do print(a, b) end return 'for' end) print(resume(s)) print(resume(s, 1, 2)) print(resume(s, nil, 2))", "true y\n1 2\ntrue y\ntrue for\n");
        // yield itself as what is called.
        BENCH.writes("local s = create(function() return setmetatable({}, {__index = yield}).key end) print(select(3, resume(s))) print(resume(s, 7))", "key\ntrue 7\n");
        BENCH.writes("local s = create(function() for a in yield, 's', 'c' do print(a) end return 'end' end) print(resume(s)) print(resume(s, 1)) print(resume(s))", "true s c\n1\ntrue s 1\ntrue end\n");
    }

    private static void valuesOfResume() {
        BENCH.writes("local s = create(function(...) print(select('#', ...), ...) print(select('#', yield()), 'y') print(yield(nil)) print((yield(1, nil, 3))) return end) print(resume(s)) print(resume(s)) print(resume(s, nil)) print(resume(s, 4, 5)) print(resume(s))",
                "0\ntrue\n0 y\ntrue nil\nnil\ntrue 1 nil 3\n4\ntrue\nfalse dead strand\n");
        BENCH.writes("local s = create(function(a, b) return b, a end) print(resume(s, 1, 2, 3))", "true 2 1\n");
        BENCH.writes("local s = create(function(a, ...) return select('#', ...), a end) print(resume(s, unpack({}, 1, 39)))", "true 38 nil\n");
        BENCH.writes("local s = create(function() local a, b = yield() return a, b end) resume(s) print(resume(s, 1, 2, 3))", "true 1 2\n");
        BENCH.writes("local s = create(function() return (yield()) end) resume(s) print(resume(s, 1, 2, 3))", "true 1\n");
        BENCH.writes("local s = create(function() return {yield()} end) resume(s) local _, t = resume(s, 1, 2, 3) print(#t)", "3\n");
        BENCH.writes("local s = create(function() yield(yield(yield(1))) end) print(resume(s)) print(resume(s, 2, 2)) print(resume(s, 3, 3)) print(resume(s, 4))", "true 1\ntrue 2 2\ntrue 3 3\ntrue\n");
    }

    private static void valuesOfWrappers() {
        BENCH.writes("local w = wrap(function(...) print(...) print(yield()) print(yield(nil, nil)) return 5, nil end) print(w(1, 2)) print(select('#', w(3))) print(w(4)) print(pcall(w))", "1 2\n\n3\n2\n4\n5 nil\nfalse dead strand\n");
        BENCH.writes("local w = wrap(function() end) print(w())", "\n");
        BENCH.writes("local w = wrap(function() return false, 'x' end) print(w())", "false x\n");
        BENCH.writes("print(wrap(function(t, a) return a end) == nil, pcall(wrap(function(a) return a end), 6))", "false true 6\n");
    }

    private static void errorsInStrands() {
        BENCH.writes("local s = create(function() error() end) print(resume(s)) print(status(s))", "false nil\ndead\n");
        BENCH.writes("local s = create(function() yield() return 1 + nil end) resume(s) print(resume(s)) print(status(s))", "false no number\ndead\n");
        // That one alone.
        BENCH.writes("local o = create(function() local i = create(function() error('x') end) print(resume(i)) print(status(i)) yield() return 'on' end) print(resume(o)) print(status(o)) print(resume(o))", "false x\ndead\ntrue\nsuspended\ntrue on\n");
        // A wrapper passes it on, through all that wait.
        BENCH.writes("local a = wrap(function() wrap(function() wrap(function() error('x') end)() end)() end) print(pcall(a)) print(pcall(a))", "false x\nfalse dead strand\n");
        BENCH.writes("local s = create(function() print(pcall(wrap(function() error('x') end))) yield('fine') end) print(resume(s)) print(status(s))", "false x\ntrue fine\nsuspended\n");
        BENCH.fails("wrap(function() wrap(function() error({}) end)() end)()", "! table\n");
        BENCH.writes("local s = create(function() local function r() r() end r() end) print(resume(s))", "false too deep\n");
    }

    private static void runningOnes() {
        BENCH.writes("print(running(), select('#', running()))", "nil 1\n");
        BENCH.writes("local s s = create(function() print(running() == s) local u = create(function() print(running() == s, status(running())) end) resume(u) print(running() == s, running() == u) end) resume(s) print(running())", "true\nfalse running\ntrue false\nnil\n");
        BENCH.writes("wrap(function() print(type(running()), status(running())) end)()", "strand running\n");
        BENCH.writes("local s local w = wrap(function() s = running() yield() return 'by resume' end) w() print(status(s), resume(s)) print(pcall(w))", "suspended true by resume\nfalse dead strand\n");
    }

    private static void strandsThatOutliveThings() {
        BENCH.writes("local function gen(n) return wrap(function() for i = 1, n do yield(i) end end) end local a, b = gen(3), gen(2) print(a(), b(), a(), b(), a(), b(), a())", "1 1 2 2 3 nil\n");
        BENCH.writes("local t = {} for i = 1, 30 do t[i] = wrap(function(x) while true do x = x + yield(x) end end) t[i](i) end local n = 0 for k = 1, 3 do for i = 30, 1, -1 do n = n + t[i](k) end end print(n)", "1695\n");
        BENCH.writes("local s = create(function() local a = 1 local function up() a = a + 1 return a end yield(up) return a end) local _, up = resume(s) print(up(), up()) print(resume(s))", "2 3\ntrue 3\n");
        BENCH.writes("local s = create(function() local a = {n = 1} yield(a) return a.n end) local _, a = resume(s) a.n = 5 for i = 1, 300 do local t = {{}, {}} end print(resume(s))", "true 5\n");
    }
}
