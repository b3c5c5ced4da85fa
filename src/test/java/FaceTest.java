/** Promises 1, 2, 4, 5 and 6, and what run refuses. */
final class FaceTest {
    private static final Bench BENCH = new Bench("FaceTest");

    public static void main(String[] args) {
        sizesOfHeaps();
        feeding();
        refusedRuns();
        places();
        fetching();
        counting();
        BENCH.finish();
    }

    /** The heap's size shows in how many tables fit: each list of one has 7 cells and a key. */
    private static int tablesThatFit(int cells) {
        BENCH.heap(cells);
        BENCH.same("a loop that fills the heap", BENCH.run("n = 0 t = {} while true do t[n] = {} n = n + 1 end", 20000), 6);
        return BENCH.script().count(1);
    }

    private static void sizesOfHeaps() {
        // Globals 100, n and t 6, the table 4, then 7 for each round, while a call has 8.
        BENCH.same("heap of 300", tablesThatFit(300), 110 + (300 - 118) / 7 * 7);
        BENCH.same("heap of 299", tablesThatFit(299), tablesThatFit(2000));
        BENCH.same("heap of 8000", tablesThatFit(8000), 110 + (8000 - 118) / 7 * 7);
        BENCH.same("heap of 8001", tablesThatFit(8001), 110 + (2000 - 118) / 7 * 7);
        BENCH.same("heap of -1", tablesThatFit(-1), tablesThatFit(2000));
        BENCH.same("heap of 0", tablesThatFit(0), tablesThatFit(2000));
        BENCH.same("heap of the least int", tablesThatFit(Integer.MIN_VALUE), tablesThatFit(2000));
        BENCH.same("heap of the most int", tablesThatFit(Integer.MAX_VALUE), tablesThatFit(2000));
        BENCH.heap(2000);
        BENCH.same("place at first", BENCH.script().place(), -1);
        BENCH.same("fuel at first", BENCH.script().count(0), 0);
        BENCH.same("cells at first", BENCH.script().count(1), 100);
        BENCH.same("text at first", BENCH.script().count(2), 0);
        BENCH.same("output at first", BENCH.script().count(3), 0);
        BENCH.same("fetch at first", BENCH.script().fetch(), 0);
    }

    private static void feeding() {
        BENCH.heap(2000);
        for (int i = 0; i < 150; i++) {
            BENCH.same("feed " + i, BENCH.script().feed(0x20202020, 0x20202020, 0x20202020, 0x20202020, 0x20202020) ? 1 : 0, 1);
            BENCH.same("bytes of the text", BENCH.script().count(2), 20 * i + 20);
        }
        BENCH.same("feed beyond 3000", BENCH.script().feed(0, 0, 0, 0, 0) ? 1 : 0, 0);
        BENCH.same("bytes of a full text", BENCH.script().count(2), 3000);
        BENCH.same("a run of 3000 blanks", BENCH.script().run(3000, 0), 0);
        BENCH.same("bytes after a run", BENCH.script().count(2), 0);
        // Highest byte first: "x=1 print(x)" and a byte that is not read.
        BENCH.same("feed by hand", BENCH.script().feed(0x783D3120, 0x7072696E, 0x74287829, 0xFF000000, 0) ? 1 : 0, 1);
        BENCH.same("run by hand", BENCH.script().run(12, 10), 0);
        BENCH.same("written by hand", BENCH.fetched(), "1\n");
    }

    private static void refusedRuns() {
        BENCH.heap(2000);
        BENCH.same("a fault", BENCH.run("x = = 1", 50), 1);
        BENCH.feed("print(1)");
        int[][] wrong = {{-1, 5}, {21, 5}, {Integer.MAX_VALUE, 5}, {Integer.MIN_VALUE, 5}, {8, -1}, {8, 20001}, {8, Integer.MIN_VALUE}};
        for (int[] call : wrong) {
            BENCH.same("run(" + call[0] + ", " + call[1] + ")", BENCH.script().run(call[0], call[1]), -1);
            BENCH.same("place behind it", BENCH.script().place(), 4);
            BENCH.same("fuel behind it", BENCH.script().count(0), 50);
            BENCH.same("text behind it", BENCH.script().count(2), 20);
        }
        BENCH.same("run that is not refused", BENCH.script().run(8, 20000), 0);
        BENCH.same("its output", BENCH.fetched(), "1\n");
        BENCH.same("run of no text", BENCH.script().run(0, 0), 0);
        BENCH.same("run of one byte too many", BENCH.script().run(1, 0), -1);
        BENCH.feed("print(1) print(2)   ");
        BENCH.same("run of a part", BENCH.script().run(8, 20000), 0);
        BENCH.same("output of a part", BENCH.fetched(), "1\n");
        BENCH.same("the rest is gone", BENCH.script().count(2), 0);
    }

    private static void places() {
        BENCH.heap(2000);
        BENCH.refuses("x", 1, 1);
        BENCH.refuses("  break", 2, 2);
        BENCH.refuses("", 0, -1);
        BENCH.same("error", BENCH.run("error(1)", 9), 5);
        BENCH.same("place of an error", BENCH.script().place(), -1);
        BENCH.same("no fuel", BENCH.run("x = 1", 0), 4);
        BENCH.same("place without fuel", BENCH.script().place(), -1);
        BENCH.fetched();
    }

    private static void fetching() {
        BENCH.heap(2000);
        BENCH.run("print('abcdefghi')", 9);
        BENCH.same("waiting", BENCH.script().count(3), 10);
        BENCH.same("seven bytes", BENCH.script().fetch(), 0x0761626364656667L);
        BENCH.same("waiting", BENCH.script().count(3), 3);
        BENCH.same("three bytes", BENCH.script().fetch(), 0x0368690A00000000L);
        BENCH.same("no bytes", BENCH.script().fetch(), 0);
        BENCH.run("print('\\255\\0')", 9);
        BENCH.same("bytes 255, 0, 10", BENCH.script().fetch(), 0x03FF000A00000000L);
        BENCH.run("for i = 1, 5 do print(rep('a', 999)) end", 2000);
        BENCH.same("at most 4000 wait", BENCH.script().count(3), 4000);
        BENCH.run("print('b')", 20);
        BENCH.same("from all runs", BENCH.script().count(3), 4000);
        BENCH.script().fetch();
        BENCH.run("print('bcdefghijkl')", 20);
        String all = BENCH.fetched();
        BENCH.same("length of all", all.length(), 4000);
        BENCH.same("the end of all", all.substring(3990), "aa\nbcdefgh");
    }

    private static void counting() {
        BENCH.heap(2000);
        BENCH.same("count of 4", BENCH.script().count(4), -1);
        BENCH.same("count of -1", BENCH.script().count(-1), -1);
        BENCH.same("count of the least int", BENCH.script().count(Integer.MIN_VALUE), -1);
        BENCH.run("x = 'ab' .. 1 y = {x}", 100);
        BENCH.same("fuel left", BENCH.script().count(0), 98);
        BENCH.same("globals, a string, a table", BENCH.script().count(1), 100 + 6 + 3 + 7);
        BENCH.run("", 7);
        BENCH.same("globals are new for each run", BENCH.script().count(1), 100);
        BENCH.same("fuel left of nothing", BENCH.script().count(0), 7);
        BENCH.run("s = create(function() local t = {} yield() end) resume(s) local u = {}", 100);
        BENCH.same("a strand that stopped", BENCH.script().count(1), 103 + 10 + 8 + 2 + 4);
        BENCH.run("s = create(function() local t = {} error() end) resume(s)", 100);
        BENCH.same("a strand that is dead", BENCH.script().count(1), 113);
        BENCH.run("s = create(function() local t = {} while true do end end) resume(s)", 100);
        BENCH.same("a strand that ran", BENCH.script().count(1), 113);
        BENCH.same("no fuel left", BENCH.script().count(0), 0);
        BENCH.run("s = create(function() local t = {} end) resume(s)", 4);
        BENCH.same("a strand without fuel for its call", BENCH.script().count(1), 115);
    }
}
