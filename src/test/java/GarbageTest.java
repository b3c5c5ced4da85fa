/**
 * Promise 3, MEMORY: what is gone makes room, and nothing that is left is changed by that. Each text makes far more
 * than its heap holds, keeps some of it, and looks at all that it kept.
 */
final class GarbageTest {
    private static final Bench BENCH = new Bench("GarbageTest");

    public static void main(String[] args) {
        for (int run = 0; run < 2; run++) {
            stringsAsKeys();
            stringsOfAllLengths();
            stringsThatComeAgain();
            rowsThatChange();
            manyTables();
            manyProcedures();
            variablesOfScopes();
            variablesOfStrands();
            variablesOfStrandsInTurn();
            strandsInAnyOrder();
            strandsThatAreDropped();
            deepStrands();
            metaTables();
            handlesOfGlobals();
            kindsByTurns();
            manyStrings();
            keysByTurns();
            rowsOfDroppedTables();
            framesOfStrands();
        }
        BENCH.finish();
    }

    private static void inHeaps(String text, String want, int... heaps) {
        for (int cells : heaps) {
            BENCH.heap(cells);
            BENCH.writes(text, want);
            BENCH.writes(text, want);
        }
        BENCH.heap(2000);
    }

    private static void stringsAsKeys() {
        // 20 keys of made strings stay, among many that go.
        inHeaps("local t = {} for i = 1, 20 do t['k' .. i] = i end local n = 0 for r = 1, 30 do for i = 1, 20 do local s = 'x' .. i .. r if t['k' .. i] ~= i then print(i, r) end n = n + 1 end end"
                + " local s = 0 for k, v in pairs(t) do if k ~= 'k' .. v then print(k, v) end s = s + v end print(n, s)", "600 210\n", 250 + 60, 320, 400, 2000);
        inHeaps("local t = {} for r = 1, 40 do for i = 1, 10 do t['k' .. i] = 'v' .. r .. i end for i = 1, 10 do if t['k' .. i] ~= 'v' .. r .. i then print(r, i) end t['k' .. i] = nil end end print(next(t))", "nil\n", 330, 500, 8000);
    }

    private static void stringsOfAllLengths() {
        // The bytes of all strings that are made would not stand beside one another.
        inHeaps("local t = {} for i = 1, 150 do local s = rep(char(65 + i % 26), i % 90) .. i t[i % 4] = s if #s ~= i % 90 + #(i .. '') then print(i) end end for i = 0, 3 do print(t[i]) end",
                Bench.times("S", 148 % 90) + "148\n" + Bench.times("T", 149 % 90) + "149\n" + Bench.times("U", 150 % 90) + "150\n" + Bench.times("R", 147 % 90) + "147\n", 300, 350, 2000);
        StringBuilder want = new StringBuilder();
        for (int i = 91; i <= 100; i++) {
            want.append(Bench.times("" + (char) ('a' + i % 26), 70)).append('\n');
        }
        inHeaps("local t = {} for i = 1, 100 do insert(t, rep(char(97 + i % 26), 70)) if #t > 10 then remove(t, 1) end end for i = 1, 10 do print(t[i]) end", want.toString(), 300, 320, 600);
    }

    private static void stringsThatComeAgain() {
        inHeaps("local keep = {} for r = 1, 25 do for i = 1, 12 do local s = 'a' .. i if r == 5 and i % 3 == 0 then keep[#keep + 1] = s end end end for i = 1, 4 do print(keep[i] == 'a' .. i * 3, keep[i]) end",
                "true a3\ntrue a6\ntrue a9\ntrue a12\n", 300, 310, 1000);
        inHeaps("local n = 0 for i = 1, 300 do local a, b = 'q' .. i, 'q' .. i if a == b and rawequal(a, b) and ({[a] = 1})[b] then n = n + 1 end end print(n)", "300\n", 300, 304, 2000);
    }

    private static void rowsThatChange() {
        inHeaps("local t = {} for i = 1, 60 do t[i] = i end for r = 1, 20 do for i = 1, 60 do if (i + r) % 3 == 0 then t[i] = nil end end t.x = r for i = 1, 60 do if t[i] ~= nil and t[i] ~= i then print(r, i) end t[i] = i end end"
                + " local n, s = 0, 0 for k, v in pairs(t) do n = n + 1 if k ~= 'x' then s = s + v end end print(n, s, #t)", "61 1830 60\n", 300, 330, 2000);
        inHeaps("local t = {} for i = 1, 600 do t[i * 7919] = i end for r = 1, 4 do for i = 1, 600 do if i % 5 == r then t[i * 7919] = nil end end t['r' .. r] = r for i = 1, 600 do local due = i % 5 > r or i % 5 == 0 if (t[i * 7919] == i) ~= due then print(r, i) end end end"
                + " local n = 0 for k, v in next, t do n = n + 1 end print(n)", "124\n", 2300, 8000);
        inHeaps("local a, b, c = {}, {}, {} for i = 1, 15 do a[i], b[i], c[i] = i, -i, 'c' end for r = 1, 30 do for i = 1, 15 do a[i], b[i] = nil end a.x, b.x = nil for i = 15, 1, -1 do a[i], b[i] = i + r, r - i end end print(a[1], a[15], b[1], b[15], #a, #b, #c)", "31 45 29 15 15 15 15\n", 300, 2000);
    }

    private static void manyTables() {
        inHeaps("local t = {} for i = 1, 1500 do t[i % 5] = {i, {i + 1}} end for i = 0, 4 do print(t[i][1], t[i][2][1]) end", "1500 1501\n1496 1497\n1497 1498\n1498 1499\n1499 1500\n", 300, 600, 8000);
        inHeaps("local l for i = 1, 1500 do l = {i, l} if i % 10 == 0 then l[2] = nil end end local n = 0 while l do n = n + l[1] l = l[2] end print(n)", "1500\n", 300, 2000);
    }

    private static void manyProcedures() {
        inHeaps("local n = 0 for i = 1, 2500 do local f = function() return i end n = n + f() end print(n)", "3126250\n", 300, 301, 8000);
        inHeaps("local t, n = {}, 0 for i = 1, 600 do local a, b = i, -i t[i % 4] = function(d) a = a + d b = b - d return a + b, a end if i > 4 then local x, y = t[(i + 1) % 4](i) n = n + x if y ~= 2 * i - 3 then print(i) end end end print(n, t[0](1))", "0 0 601\n", 300, 500, 8000);
        inHeaps("local function make(k) return function() return function() k = k + 1 return k end end end local f = make(0)() for i = 1, 400 do local g = make(i)() g() f() end print(f())", "401\n", 300, 8000);
    }

    private static void variablesOfScopes() {
        // A variable that none keeps any more goes back into its scope, and may be kept again.
        inHeaps("local a, b = 1, {7} for i = 1, 300 do local f = function() a = a + 1 return b end f = nil local t = {i, {i}} if b[1] ~= 7 then print(i) end local g = function() a = a + 2 return b end g() end print(a, b[1])", "601 7\n", 300, 320, 2000);
        inHeaps("local function r(n, x) local f = function() return x end f = nil if n > 0 then r(n - 1, {n}) end local t = {{}, {}} if x[1] ~= n + 1 then print(n) end return x[1] end print(r(8, {9}))", "9\n", 400, 2000);
    }

    private static void variablesOfStrands() {
        inHeaps("local s = create(function() local a, b = 5, {6} g = function() return a, b end yield() return a, b[1] end) resume(s) g = nil for i = 1, 200 do local t = {i, function() return i end} end print(resume(s))", "true 5 6\n", 300, 310, 2000);
        inHeaps("local s = create(function() local a = 5 g = function() a = a + 1 return a end yield() a = a + 10 yield() return a end) resume(s) g() resume(s) g() g = nil for i = 1, 200 do local t = {i, {}} end print(resume(s))", "true 17\n", 300, 2000);
        inHeaps("local t = {} for k = 1, 4 do t[k] = wrap(function() local a = {k} h = function() return a end yield() return a[1] end) t[k]() end h = nil for i = 1, 300 do local u = {{i}} end print(t[4](), t[2](), t[1](), t[3]())", "4 2 1 3\n", 330, 2000);
    }

    /** Strands stop in one order and go on in others: what none keeps goes back into the scopes of all of them. */
    private static void variablesOfStrandsInTurn() {
        String make = "local t, h = {}, {} for k = 1, 5 do t[k] = wrap(function() local a, b = {k}, k h[k] = function() return a, b end while true do yield(a[1], b) b = b + 10 end end) t[k]() end ";
        for (String again : new String[] {"1", "1, 2", "3", "5", "5, 1", "1, 3, 1", "2, 1, 4, 1"}) {
            int[] due = {1, 2, 3, 4, 5};
            for (String k : again.split(", ")) {
                due[Integer.parseInt(k) - 1] += 10;
            }
            StringBuilder want = new StringBuilder();
            for (int k = 1; k <= 5; k++) {
                want.append(k).append(' ').append(due[k - 1] + 10).append('\n');
            }
            inHeaps(make + "for _, k in ipairs({" + again + "}) do t[k]() end h = nil for i = 1, 300 do local u = {{i}, function() return i end} end for k = 1, 5 do print(t[k]()) end", want.toString(), 450, 520, 2000);
        }
    }

    private static void strandsInAnyOrder() {
        // Some stop with much on their stacks, some with little, and go on from the last to the first and back.
        inHeaps("local t = {} for i = 1, 12 do t[i] = wrap(function(a) local l = {} for k = 1, i do l[k] = k end while true do local b = yield(unpack(l)) a = a + b + #l l[#l] = nil if #l == 0 then l[1] = 1 end end end) t[i](i) end"
                + " local n = 0 for r = 1, 12 do for i = r % 2 == 0 and 1 or 12, r % 2 == 0 and 12 or 1, r % 2 == 0 and 1 or -1 do local x, y = t[i](r) n = n + (x or 0) + (y or 0) end end print(n)", (144 + 2 * 55) + "\n", 1200, 2000, 8000);
        inHeaps("local t = {} for i = 1, 8 do t[i] = create(function(...) local s = 0 for k = 1, 50 do s = s + select('#', yield(k, s, ...)) end return s end) end local n = 0 for r = 1, 30 do for i = 1, 8 do if (i + r) % 3 ~= 0 then local ok, k, s = resume(t[i], unpack({}, 1, (i * r) % 5)) n = n + k * 100 + s end end end print(n)",
                strandSum() + "\n", 700, 2000);
    }

    /** The sum that the last text is due to write. */
    private static int strandSum() {
        int[] rounds = new int[9];
        int[] sums = new int[9];
        int n = 0;
        for (int r = 1; r <= 30; r++) {
            for (int i = 1; i <= 8; i++) {
                if ((i + r) % 3 != 0) {
                    if (rounds[i] > 0) {
                        sums[i] += i * r % 5;
                    }
                    rounds[i]++;
                    n += rounds[i] * 100 + sums[i];
                }
            }
        }
        return n;
    }

    private static void strandsThatAreDropped() {
        inHeaps("local t = {} for i = 1, 300 do local s = create(function(a) local l = {a, a + 1} yield() if a % 3 == 0 then error(l[1]) end yield() return l[1] + l[2] end) resume(s, i) if i % 2 == 0 then resume(s) end t[i % 5] = s end for i = 0, 4 do print(status(t[i]), resume(t[i])) end",
                "dead false dead strand\nsuspended true 593\nsuspended false 297\nsuspended true 597\nsuspended true\n", 350, 600, 8000);
        inHeaps("for i = 1, 400 do local w = wrap(function() local x = {} while true do yield(x) end end) for k = 1, i % 3 do w() end end print('ok')", "ok\n", 300, 2000);
    }

    private static void deepStrands() {
        inHeaps("local function d(n, ...) if n == 0 then return yield(select('#', ...)) end local r = d(n - 1, n, ...) return r + n end local t = {} for i = 1, 5 do t[i] = create(d) print(resume(t[i], i * 3)) end for i = 5, 1, -1 do print(resume(t[i], 1000)) end",
                "true 3\ntrue 6\ntrue 9\ntrue 12\ntrue 15\ntrue 1120\ntrue 1078\ntrue 1045\ntrue 1021\ntrue 1006\n", 800, 8000);
        inHeaps("local function d(n) if n == 0 then yield() return 0 end local a, b, c = {n}, n, 'x' .. n local r = d(n - 1) if a[1] ~= b or c ~= 'x' .. n then print(n) end return r + 1 end for k = 1, 6 do local s, u = create(d), create(d) resume(s, 30) resume(u, 20) for i = 1, 60 do local t = {{i}} end print(resume(s)) print(resume(u)) end",
                Bench.times("true 30\ntrue 20\n", 6), 1500, 8000);
    }

    private static void metaTables() {
        inHeaps("local m = {__add = function(a, b) return setmetatable({n = a.n + b.n}, getmetatable(a)) end, __eq = function(a, b) return a.n == b.n end} local function v(n) return setmetatable({n = n}, m) end local s = v(0) for i = 1, 200 do s = s + v(i) end print(s.n, s == v(20100), s ~= v(1))", "20100 true true\n", 300, 2000);
        inHeaps("local t = setmetatable({}, {__index = function(t, k) local v = {k * 2} rawset(t, k, v) return v end}) for r = 1, 20 do for i = 1, 10 do if t[i + r][1] ~= (i + r) * 2 then print(i) end end for i = 1, r do t[i] = nil end end print(rawget(t, 1), t[30][1])", "nil 60\n", 350, 2000);
    }

    private static void handlesOfGlobals() {
        inHeaps("for i = 1, 120 do x = {i} y = 'y' .. i f = function() return i end end print(x[1], y, f())", "120 y120 120\n", 300, 2000);
        inHeaps("local p, t = print, {} for k in pairs({'type', 'next'}) do t[k] = k end print, type = nil for i = 1, 50 do local u = {{i}} end z = 1 p(type, z, #t, select('#', 1, 2))", "nil 1 2 2\n", 300, 2000);
    }

    /** What went of one kind still waits to be used again when others of another kind go. */
    private static void kindsByTurns() {
        String look = " for j = 1, #k do local e = k[j] if e[1] ~= j or e[2] ~= 'k' .. j or e[3]() ~= j or e[4]() ~= j then print(r, j) end end";
        inHeaps("local k = {} for r = 1, 6 do for i = 1, 40 do local t = {i} end for i = 1, 150 do local s = 'g' .. r .. i end for i = 1, 40 do local f = function() return i end end for i = 1, 120 do local s = r .. i .. 'h' end"
                + " for i = 1, 20 do local w = wrap(function() yield(i) end) w() end for i = 1, 90 do local s = 'w' .. i end k[r] = {r, 'k' .. r, function() return r end, wrap(function() while true do yield(r) end end)}" + look + " end"
                + " local l = {} for i = 1, 20 do l[i] = {i, 'l' .. i} end for i = 1, 20 do if l[i][1] ~= i or l[i][2] ~= 'l' .. i then print(i) end end print(#k, #l)", "6 20\n", 850, 900, 1200, 8000);
        inHeaps("local k = {} for r = 1, 9 do for i = 1, 30 do local s = 'g' .. r .. i end for i = 1, 60 do local t = {{i}} end for i = 1, 4 do k[#k + 1] = 'k' .. r * 10 + i end for j = 1, #k do if k[j] ~= 'k' .. (j + 3) // 4 * 10 + (j - 1) % 4 + 1 then print(r, j) end end end print(#k)", "36\n", 400, 450, 2000);
        inHeaps("local k = {} for r = 1, 9 do for i = 1, 25 do local a, b = i, r local f = function() return a, b end end for i = 1, 60 do local t = {{i}} end for i = 1, 2 do local x, y = r, i k[#k + 1] = function() x = x + y return x end end for j = 1, #k do local due = (j + 1) // 2 + ((j - 1) % 2 + 1) * (r - (j + 1) // 2 + 1) if k[j]() ~= due then print(r, j) end end end print(#k)", "18\n", 420, 450, 2000);
    }

    private static void manyStrings() {
        inHeaps("local n = 0 for i = 1, 4000 do local s = 'k' .. i n = n + #s end print(n)", "18893\n", 300, 303, 2000);
        inHeaps("local t = {} for i = 1, 2500 do t[i % 9] = 'k' .. i end for i = 0, 8 do print(t[i]) end", "k2493\nk2494\nk2495\nk2496\nk2497\nk2498\nk2499\nk2500\nk2492\n", 300, 2000);
    }

    private static void keysByTurns() {
        // A third of the keys goes, others come in their places, and all are looked for.
        inHeaps("local t, u = {}, {} for i = 1, 200 do t[i * 31] = i u[-i] = -i end for r = 1, 5 do for i = 1, 200 do if (i + r) % 3 == 0 then t[i * 31], u[-i] = nil end end for i = 1, 200 do if (i + r) % 3 == 0 then t[i * 31], u[-i] = i, -i end end"
                + " for i = 1, 200 do if t[i * 31] ~= i or u[-i] ~= -i then print(r, i) end end end print('ok')", "ok\n", 1350, 2000, 8000);
        inHeaps("local t = {} for r = 1, 5 do for i = 1, 200 do t[i * 64 + r] = i end for i = 1, 200 do if t[i * 64 + r] ~= i or t[i * 64 + r - 1] ~= nil then print(r, i) end end for i = 200, 1, -1 do t[i * 64 + r] = nil end end print(next(t))", "nil\n", 720, 2000);
    }

    private static void rowsOfDroppedTables() {
        inHeaps("local k = {} for r = 1, 12 do local t = {} for i = 1, 12 do t[i] = i end for i = 1, 12 do t[i] = nil end t.x = 1 t = nil for i = 1, 40 do local s = 'g' .. i .. r end local u = {} for i = 1, 5 do u[i] = r * i end k[r % 4] = u for j = 0, 3 do local v = k[j] if v and (v[5] ~= v[1] * 5 or #v ~= 5) then print(r, j) end end end print(k[0][5], k[3][1])", "60 11\n", 300, 320, 2000);
        inHeaps("for r = 1, 40 do local t = {} for i = 1, 20 do t[i] = {} if i > 10 then t[i - 10] = nil end end t.x = 1 if #t ~= 0 or t[20] == nil then print(r) end end print('ok')", "ok\n", 320, 2000);
    }

    private static void framesOfStrands() {
        // A strand that stopped deep below goes on from where the one that resumes it is deep, too.
        String down = "local function d(n) if n == 0 then return yield(1) end return d(n - 1) + 1 end ";
        inHeaps(down + "local s = create(d) resume(s, 50) local function m(n) if n == 0 then return resume(s, 5) end return m(n - 1) end print(m(50))", "true 55\n", 1000, 8000);
        inHeaps(down + "local t = {} for i = 1, 9 do t[i] = create(d) resume(t[i], 50) end local function m(n) if n == 0 then return 0 end local ok, v = resume(t[n], n) return v + m(n - 1) end print(m(9))", "495\n", 5000, 8000);
        inHeaps("local function d(k, n) if n > 0 then return d(k, n - 1) end if k > 0 then local w = wrap(d) yield(w(k - 1, 30)) return w() end yield(1) return 'end' end local s = create(function() return d(7, 40) end) print(resume(s)) print(status(s)) print(resume(s)) print(status(s))", "true 1\nsuspended\ntrue end\ndead\n", 3000, 8000);
    }
}
