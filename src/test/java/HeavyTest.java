/**
 * Promise 3 with much fuel: long runs in small and large heaps. What is due was worked out by another
 * program, which looks at all that is reachable whenever an object is made.
 */
final class HeavyTest {
    private static final Bench BENCH = new Bench("HeavyTest");

    public static void main(String[] args) {
        stringsInDeepCalls();
        stringsFillTheHeap();
        closuresFillTheHeap();
        deepStrands();
        droppedStrands();
        longStrings();
        deadKeys();
        membersMadeOnDemand();
        strandsOfDeepCalls();
        metaTablesThatCount();
        BENCH.finish();
    }

    /** The fault, the fuel left, the cells left, and the length and the weighed sum of all that is written. */
    private static void due(String text, int heap, int[] want) {
        BENCH.heap(heap);
        BENCH.same("fault in " + heap + " of " + text, BENCH.run(text, 20000), want[0]);
        BENCH.same("fuel left in " + heap + " of " + text, BENCH.script().count(0), want[1]);
        BENCH.same("cells in " + heap + " of " + text, BENCH.script().count(1), want[2]);
        String written = BENCH.fetched();
        long sum = 0;
        for (int i = 0; i < written.length(); i++) {
            sum += (i + 1L) * written.charAt(i);
        }
        BENCH.same("length in " + heap + " of " + text, written.length(), want[3]);
        BENCH.same("sum in " + heap + " of " + text, sum % 1000003, want[4]);
    }

    private static void stringsInDeepCalls() {
        String text = "local n=0 local function mk() n=n+1 return char(n//256,n%256) end local function r(d,...) if d==0 then print(count(),n) return 1 end return r(d-1,mk(),mk(),mk(),mk(),mk(),mk(),mk(),mk(),mk())+1 end for i=1,3 do n=0 print(pcall(r,50)) end print(count())";
        due(text, 300, new int[] {6, 19859, 100, 0, 0});
        due(text, 1200, new int[] {6, 19114, 100, 0, 0});
        due(text, 8000, new int[] {0, 15612, 100, 55, 87246});
    }

    private static void stringsFillTheHeap() {
        String text = "local t={} local i=0 while true do i=i+1 t[i]=char(i//256,i%256) end";
        due(text, 300, new int[] {6, 19869, 100, 0, 0});
        due(text, 1200, new int[] {6, 19269, 100, 0, 0});
        due(text, 8000, new int[] {6, 14737, 100, 0, 0});
    }

    private static void closuresFillTheHeap() {
        String text = "local t={} local i=0 while true do i=i+1 local a,b,c=1,2,3 t[i]=function() return a,b,c end end";
        due(text, 300, new int[] {6, 19941, 100, 0, 0});
        due(text, 1200, new int[] {6, 19685, 100, 0, 0});
        due(text, 8000, new int[] {6, 17741, 100, 0, 0});
    }

    private static void deepStrands() {
        String text = "local t={} for i=1,150 do t[i]=create(function(...) local a,b,c,d=... local function f(n,...) if n==0 then yield(n) return 1 end local x={} return f(n-1,...)+1 end return f(3,...) end) resume(t[i],i,'x'..i,{},nil,i) end print(count()) local s=0 for k=1,3 do for i=150,1,-1 do local ok,v=resume(t[i],k) if ok and v then s=s+v end end print(s,count()) end";
        due(text, 300, new int[] {6, 19948, 100, 0, 0});
        due(text, 1200, new int[] {6, 19710, 100, 0, 0});
        due(text, 8000, new int[] {6, 17902, 100, 0, 0});
    }

    private static void droppedStrands() {
        String text = "local t={} local i=0 while true do i=i+1 t[i]=wrap(function() local x={} yield(x) end) t[i]() if i%3==0 then t[i-1]=nil end end";
        due(text, 300, new int[] {6, 19903, 100, 0, 0});
        due(text, 1200, new int[] {6, 19393, 100, 0, 0});
        due(text, 8000, new int[] {6, 15547, 100, 0, 0});
    }

    private static void longStrings() {
        String text = "local z=rep('z',1000) local i=0 while true do i=i+1 z=sub(z,2)..char(i%256) if i%50==0 then print(count()) end end";
        due(text, 300, new int[] {6, 19868, 100, 0, 0});
        due(text, 1200, new int[] {4, 31, 100, 12, 3021});
        due(text, 8000, new int[] {4, 31, 100, 12, 3021});
    }

    private static void deadKeys() {
        String text = "local t={} for i=1,1500 do t[i]='s'..i end print(count()) for i=1,1500,2 do t[i]=nil end print(count()) t.x=1 print(count()) for i=1,700 do local u={i,'q'..i} end print(count())";
        due(text, 300, new int[] {6, 19934, 100, 0, 0});
        due(text, 1200, new int[] {6, 19634, 100, 0, 0});
        due(text, 8000, new int[] {6, 17368, 100, 0, 0});
    }

    private static void membersMadeOnDemand() {
        String text = "local q=setmetatable({},{__index=function(t,k) local v={k} rawset(t,k,v) return v end}) for i=1,900 do q[i%300][1]=i end print(count()) q=nil print(count())";
        due(text, 300, new int[] {6, 19891, 100, 0, 0});
        due(text, 1200, new int[] {6, 19351, 100, 0, 0});
        due(text, 8000, new int[] {0, 16989, 100, 9, 1713});
    }

    private static void strandsOfDeepCalls() {
        String text = "local d={} for j=1,6 do d[j]=wrap(function() local function r(n,...) if n==0 then while true do yield(count()) end end local a,b,c={}, 'l'..n, n return r(n-1,a,b,...)end r(10) end) end for k=1,10 do for j=1,6 do print(d[j]()) end end";
        due(text, 300, new int[] {6, 19957, 100, 0, 0});
        due(text, 1200, new int[] {0, 19251, 100, 295, 899011});
        due(text, 8000, new int[] {0, 19251, 100, 295, 899011});
    }

    private static void metaTablesThatCount() {
        String text = "local o={} for i=1,200 do o[i%10]=setmetatable({},{__tostring=function() return 'o'..i end,__concat=function(a,b) return tostring(a)..tostring(b) end}) if i>10 then print(o[i%10]..o[(i+1)%10]) end end print(count())";
        due(text, 300, new int[] {6, 19968, 100, 0, 0});
        due(text, 1200, new int[] {0, 17864, 100, 1519, 953967});
        due(text, 8000, new int[] {0, 17864, 100, 1519, 953967});
    }
}
