/** The boundaries that promises 1, 2, 4, 5 and 6 name, and those of what run refuses (promise 3). */
final class FaceBoundaryTest {
    private static final Bench BENCH = new Bench("FaceBoundaryTest");
    private static final int BLANKS = 0x20202020;

    public static void main(String[] args) {
        heapsFrom300To8000();
        feedsHighestByteFirst();
        feedsUpTo3000();
        runRefusesWrongBytes();
        runRefusesWrongFuel();
        runTakesTheText();
        placeOfTheEnd();
        placeOtherwise();
        fetchesAtMostSeven();
        atMost4000Wait();
        countOfFuel();
        countOfCells();
        countOfStrands();
        countOfAnother();
        BENCH.finish();
    }

    /** A text that needs just so many cells at its end, and fewer before. */
    private static String filling(int cells) {
        int rest = cells - 112;
        int longStrings = rest / 130 - 1;
        int left = rest - 130 * longStrings;
        int tables = left / 7 - 1;
        int last = left - 7 * tables;
        return "local t = {} for i = 1, " + longStrings + " do t[i] = rep(char(i), 1000) end for i = 1, " + tables
                + " do t[-i] = {} end local s = rep('s', " + 8 * (last - 2) + ")";
    }

    private static void isHeapOf(int given, int cells) {
        BENCH.heap(given);
        BENCH.same("a text of " + cells + " cells for " + given, BENCH.run(filling(cells), 20000), 0);
        BENCH.same("a text of one more for " + given, BENCH.run(filling(cells + 1), 20000), 6);
        BENCH.heap(2000);
    }

    private static void heapsFrom300To8000() {
        int[] taken = {300, 301, 302, 433, 1999, 2000, 2001, 4567, 7999, 8000};
        for (int cells : taken) {
            isHeapOf(cells, cells);
        }
        int[] others = {299, 298, 200, 1, 0, -1, -300, -2000, 8001, 8002, 16000, 65536 + 300, Integer.MAX_VALUE, Integer.MIN_VALUE};
        for (int cells : others) {
            isHeapOf(cells, 2000);
        }
    }

    private static void feedsHighestByteFirst() {
        BENCH.heap(2000);
        // x="ABCDEFGHIJKLMNOP", then print(x) and blanks.
        BENCH.same("20 bytes", BENCH.script().feed(0x783D2241, 0x42434445, 0x46474849, 0x4A4B4C4D, 0x4E4F5022) ? 1 : 0, 1);
        BENCH.same("20 bytes behind them", BENCH.script().feed(0x7072696E, 0x74287829, BLANKS, BLANKS, BLANKS) ? 1 : 0, 1);
        BENCH.same("40 bytes", BENCH.script().count(2), 40);
        BENCH.same("their run", BENCH.script().run(40, 9), 0);
        BENCH.same("what it writes", BENCH.fetched(), "ABCDEFGHIJKLMNOP\n");
        for (int at = 0; at < 20; at++) {
            int[] words = {BLANKS, BLANKS, BLANKS, BLANKS, BLANKS};
            int shift = 24 - at % 4 * 8;
            words[at / 4] = words[at / 4] & ~(255 << shift) | 200 << shift;
            BENCH.script().feed(words[0], words[1], words[2], words[3], words[4]);
            BENCH.same("a wrong byte at " + at, BENCH.script().run(20, 9), 1);
            BENCH.same("its place", BENCH.script().place(), at);
        }
    }

    private static void feedsUpTo3000() {
        BENCH.heap(2000);
        for (int i = 0; i < 149; i++) {
            BENCH.same("feed " + i, BENCH.script().feed(BLANKS, BLANKS, BLANKS, BLANKS, BLANKS) ? 1 : 0, 1);
        }
        BENCH.same("the feed that makes it 3000", BENCH.script().feed(BLANKS, BLANKS, BLANKS, BLANKS, 0x20202078) ? 1 : 0, 1);
        for (int i = 0; i < 3; i++) {
            BENCH.same("a feed beyond 3000", BENCH.script().feed(-1, -1, -1, -1, -1) ? 1 : 0, 0);
            BENCH.same("bytes behind it", BENCH.script().count(2), 3000);
        }
        // The last byte is an x, with which a text does not end.
        BENCH.same("the full text as it was", BENCH.script().run(3000, 9), 1);
        BENCH.same("its end", BENCH.script().place(), 3000);
        BENCH.same("there is room again", BENCH.script().feed(BLANKS, BLANKS, BLANKS, BLANKS, BLANKS) ? 1 : 0, 1);
        BENCH.same("for the text", BENCH.script().count(2), 20);
        BENCH.same("a run of nothing", BENCH.script().run(0, 0), 0);
        BENCH.same("a text of the most bytes", BENCH.run(Bench.times(" ", 2992) + "print(1)", 2), 0);
        BENCH.same("which wrote", BENCH.fetched(), "1\n");
    }

    private static void isRefused(int n, int fuel) {
        StrandScript script = BENCH.script();
        String before = script.place() + " " + script.count(0) + " " + script.count(1) + " " + script.count(2) + " " + script.count(3);
        BENCH.same("run(" + n + ", " + fuel + ")", script.run(n, fuel), -1);
        BENCH.same("all behind run(" + n + ", " + fuel + ")",
                script.place() + " " + script.count(0) + " " + script.count(1) + " " + script.count(2) + " " + script.count(3), before);
    }

    private static void runRefusesWrongBytes() {
        BENCH.heap(2000);
        isRefused(1, 0);
        isRefused(-1, 0);
        BENCH.run("x = {} print('w')", 40);
        BENCH.feed("print(12)           ");
        int[] wrong = {-1, -20, 21, 22, 40, 3000, 3001, Integer.MAX_VALUE, Integer.MIN_VALUE};
        for (int n : wrong) {
            isRefused(n, 100);
        }
        BENCH.same("a run of all bytes", BENCH.script().run(20, 100), 0);
        BENCH.same("what waited, and what it writes", BENCH.fetched(), "w\n12\n");
        isRefused(1, 100);
        BENCH.feed("x = = 1             ");
        BENCH.same("a fault", BENCH.script().run(20, 33), 1);
        isRefused(1, 33);
        BENCH.same("the fault's place still", BENCH.script().place(), 4);
    }

    private static void runRefusesWrongFuel() {
        BENCH.heap(2000);
        BENCH.feed("print(1)            ");
        int[] wrong = {-1, -2, 20001, 20002, 65536, Integer.MAX_VALUE, Integer.MIN_VALUE};
        for (int fuel : wrong) {
            isRefused(8, fuel);
            isRefused(0, fuel);
            isRefused(21, fuel);
        }
        BENCH.same("a run with the most fuel", BENCH.script().run(8, 20000), 0);
        BENCH.same("fuel that it left", BENCH.script().count(0), 19998);
        BENCH.same("a run with no fuel", BENCH.run("x = 1", 0), 4);
        BENCH.same("a run that needs none", BENCH.run(";", 0), 0);
        BENCH.fetched();
    }

    private static void runTakesTheText() {
        BENCH.heap(2000);
        String[] texts = {"print(1)", "x = = 1", "break", Bench.times("(", 17), "while true do end", "error()", "local t = {} while true do t = {t} end"};
        int[] faults = {0, 1, 2, 3, 4, 5, 6};
        for (int i = 0; i < texts.length; i++) {
            BENCH.same("fault of " + texts[i], BENCH.run(i == 3 ? "x = " + texts[i] : texts[i], 5000), faults[i]);
            BENCH.same("no text behind " + texts[i], BENCH.script().count(2), 0);
        }
        BENCH.feed("print(1) print(2) print(3)");
        BENCH.same("a run of no bytes", BENCH.script().run(0, 0), 0);
        BENCH.same("no text behind it", BENCH.script().count(2), 0);
        BENCH.fetched();
        BENCH.feed("print(1) print(2) print(3)");
        BENCH.same("a run of the first bytes", BENCH.script().run(17, 50), 0);
        BENCH.same("what they write", BENCH.fetched(), "1\n2\n");
        BENCH.same("none of the others is left", BENCH.script().count(2), 0);
        // By themselves: nothing of an earlier run is there.
        BENCH.writes("x = 1 print = nil", "");
        BENCH.writes("print(x)", "nil\n");
    }

    private static void placeOfTheEnd() {
        BENCH.heap(2000);
        BENCH.feed("x = 1 + 2           ");
        BENCH.same("the first 7 bytes", BENCH.script().run(7, 5), 1);
        BENCH.same("their end", BENCH.script().place(), 7);
        BENCH.feed("x = 1 + 2           ");
        BENCH.same("the first byte", BENCH.script().run(1, 5), 1);
        BENCH.same("its end", BENCH.script().place(), 1);
        // Blanks and comments belong to the text: its end is behind them.
        BENCH.refuses("x = 1 +   ", 1, 10);
        BENCH.refuses("x = 1 + -- y", 1, 12);
        BENCH.refuses("x = 1 + -- y\n", 1, 13);
        BENCH.refuses("do", 1, 2);
        // What is no string stands at its first byte, not at the end.
        BENCH.feed("x = 'abc'           ");
        BENCH.same("a string that is cut off", BENCH.script().run(8, 5), 1);
        BENCH.same("its first byte", BENCH.script().place(), 4);
        BENCH.feed("break               ");
        BENCH.same("a word that is cut off", BENCH.script().run(4, 5), 1);
        BENCH.same("the end behind the name", BENCH.script().place(), 4);
    }

    private static void placeOtherwise() {
        BENCH.heap(300);
        BENCH.same("place ahead of all", BENCH.script().place(), -1);
        String[] texts = {"", "while true do end", "error()", "local t = {} while true do t = {t} end"};
        int[] faults = {0, 4, 5, 6};
        for (int i = 0; i < texts.length; i++) {
            BENCH.same("a fault at 0", BENCH.run("end", 5000), 1);
            BENCH.same("place 0", BENCH.script().place(), 0);
            BENCH.same("fault of " + texts[i], BENCH.run(texts[i], 5000), faults[i]);
            BENCH.same("place of fault " + faults[i], BENCH.script().place(), -1);
        }
        BENCH.fetched();
        BENCH.heap(2000);
    }

    private static void fetchesAtMostSeven() {
        BENCH.heap(2000);
        BENCH.same("nothing waits", BENCH.script().fetch(), 0);
        BENCH.run("print()", 2);
        BENCH.same("1 byte", BENCH.script().fetch(), 0x010A000000000000L);
        BENCH.same("none behind it", BENCH.script().fetch(), 0);
        BENCH.run("print('abcde')", 2);
        BENCH.same("6 bytes", BENCH.script().fetch(), 0x066162636465_0A00L);
        BENCH.same("none behind them", BENCH.script().fetch(), 0);
        BENCH.run("print('abcdef')", 2);
        BENCH.same("7 bytes", BENCH.script().fetch(), 0x07616263646566_0AL);
        BENCH.same("none behind them", BENCH.script().fetch(), 0);
        BENCH.run("print('abcdefg')", 2);
        BENCH.same("7 of 8 bytes", BENCH.script().fetch(), 0x0761626364656667L);
        BENCH.same("waiting", BENCH.script().count(3), 1);
        BENCH.same("the last of 8 bytes", BENCH.script().fetch(), 0x010A000000000000L);
        BENCH.same("waiting", BENCH.script().count(3), 0);
        BENCH.run("print('\\255\\254\\128\\127\\0\\1')", 2);
        BENCH.same("bytes of all sizes", BENCH.script().fetch(), 0x07FFFE807F00010AL);
        BENCH.same("none is left", BENCH.script().fetch(), 0);
        // Bytes of several runs stand one behind the other.
        BENCH.run("print('ab')", 2);
        BENCH.run("print('c')", 2);
        BENCH.run("error('d')", 2);
        BENCH.same("bytes of three runs", BENCH.fetched(), "ab\nc\n! d\n");
    }

    /** So many bytes wait: a string of 999 and a 10 at a time. */
    private static void letWait(int bytes) {
        int rest = bytes;
        while (rest > 0) {
            int next = Math.min(rest, 1000);
            BENCH.run("print(rep('a', " + (next - 1) + "))", 100);
            rest -= next;
        }
        BENCH.same("bytes that wait", BENCH.script().count(3), Math.min(bytes, 4000));
    }

    private static void atMost4000Wait() {
        BENCH.heap(2000);
        letWait(3999);
        BENCH.same("a byte more", BENCH.run("print()", 2), 0);
        BENCH.same("makes 4000", BENCH.script().count(3), 4000);
        BENCH.same("another", BENCH.run("print()", 2), 0);
        BENCH.same("is left out", BENCH.script().count(3), 4000);
        BENCH.same("length of all", BENCH.fetched().length(), 4000);
        letWait(3998);
        BENCH.same("of three bytes more", BENCH.run("print('xy')", 2), 0);
        String all = BENCH.fetched();
        BENCH.same("the last one is left out", all.substring(3996), "a\nxy");
        letWait(4000);
        BENCH.script().fetch();
        BENCH.same("room for 7 again", BENCH.script().count(3), 3993);
        BENCH.same("of an error's bytes", BENCH.run("error('abcdefgh')", 2), 5);
        all = BENCH.fetched();
        BENCH.same("the first ones", all.substring(3991), "a\n! abcde");
        letWait(4001);
        // What is left out does not stop the run.
        BENCH.same("a run that writes in vain", BENCH.run("print(1) x = {}", 3), 0);
        BENCH.same("its cells", BENCH.script().count(1), 107);
        BENCH.fetched();
        BENCH.same("one run that writes too much", BENCH.run("for i = 1, 9 do print(rep(i, 0), rep('b', 998)) end", 2000), 5);
        BENCH.same("what it wrote", BENCH.fetched(), "! bad value\n");
        BENCH.same("one run that writes too much", BENCH.run("for i = 1, 9 do print(i, rep('b', 997)) end", 2000), 0);
        all = BENCH.fetched();
        BENCH.same("length of it", all.length(), 4000);
        BENCH.same("end of it", all.substring(3000, 3004) + all.substring(3998), "4 bbb\n");
    }

    private static void countOfFuel() {
        BENCH.heap(2000);
        BENCH.same("fuel ahead of all", BENCH.script().count(0), 0);
        BENCH.ends("x = 1", 1, 0, 0, "");
        BENCH.ends("x = 1", 2, 0, 1, "");
        BENCH.ends("x = 1", 20000, 0, 19999, "");
        BENCH.ends("", 20000, 0, 20000, "");
        BENCH.ends("x = 1 y = 2", 1, 4, 0, "");
        BENCH.ends("x = = 1", 20000, 1, 20000, "");
        BENCH.ends("x = = 1", 0, 1, 0, "");
        BENCH.ends(" break", 123, 2, 123, "");
        BENCH.ends("x = " + Bench.times("-(", 9) + "1", 124, 3, 124, "");
        BENCH.ends("x = 1 error()", 9, 5, 6, "! nil\n");
        // Each round has 7 cells: 269 of them fit beside 112, and of the next one the table alone.
        BENCH.ends("local t = {} while true do t = {t} end", 20000, 6, 20000 - 2 - 270 * 2, "");
    }

    private static void countOfCells() {
        BENCH.heap(2000);
        BENCH.same("cells ahead of all", BENCH.script().count(1), 100);
        BENCH.same("a run", BENCH.run("x = {{}} local y = {}", 9), 0);
        BENCH.same("cells of what is reachable", BENCH.script().count(1), 100 + 3 + 4 + 3 + 4);
        BENCH.refuses("x = = 1", 1, 4);
        BENCH.same("a run", BENCH.run("x = {{}} local y = {}", 9), 0);
        BENCH.refuses("break", 2, 0);
        BENCH.same("a run", BENCH.run("x = {{}} local y = {}", 9), 0);
        BENCH.refuses("x = " + Bench.times("(", 17), 3, 20);
        BENCH.same("a run", BENCH.run("x = {{}} local y = {}", 9), 0);
        BENCH.same("nothing is refused", BENCH.script().run(1, 1), -1);
        BENCH.same("so cells stay", BENCH.script().count(1), 114);
        BENCH.same("a run without fuel", BENCH.run("x = {} local y = {} while true do end", 9), 4);
        BENCH.same("its cells", BENCH.script().count(1), 107);
        BENCH.same("a run with an error", BENCH.run("x = {} local y = {} error({})", 9), 5);
        BENCH.same("its cells", BENCH.script().count(1), 107);
        BENCH.same("a run without room", BENCH.run("x = {} local y = {} while true do y = {y} end", 5000), 6);
        BENCH.same("its cells", BENCH.script().count(1), 107);
        BENCH.same("a run that takes a name away", BENCH.run("print = nil", 9), 0);
        BENCH.same("a key without a value has cells", BENCH.script().count(1), 100);
        BENCH.same("a run in which a key comes then", BENCH.run("print = nil type = nil x = 1", 9), 0);
        BENCH.same("those without values have left", BENCH.script().count(1), 97);
        BENCH.fetched();
    }

    private static void cellsLeft(String text, int fuel, int fault, int cells) {
        BENCH.same("fault of " + text, BENCH.run(text, fuel), fault);
        BENCH.same("cells left of " + text, BENCH.script().count(1), cells);
        BENCH.fetched();
    }

    private static void countOfStrands() {
        BENCH.heap(2000);
        cellsLeft("s = create(function() local t = {} end)", 99, 0, 103 + 10 + 2);
        cellsLeft("s = create(function() local t = {} yield() end) resume(s)", 99, 0, 103 + 10 + 8 + 2 + 4);
        cellsLeft("s = create(function() local t = {} yield() end) resume(s) resume(s)", 99, 0, 103 + 10);
        cellsLeft("s = wrap(function(...) yield({}) end) s({}, {})", 99, 0, 103 + 13 + 8 + 2 + 8 + 4);
        // One that ran, and one that waited for it.
        cellsLeft("s = create(function() local t = {} u = create(function() local t = {} while true do end end) resume(u) end) resume(s)", 99, 4, 106 + 20);
        cellsLeft("s = create(function() local t = {} u = create(function() local t = {} while true do t = {t} end end) resume(u) end) resume(s)", 9999, 6, 106 + 20);
        // One that stopped keeps its calls, though the run ends without fuel.
        cellsLeft("s = create(function() local t = {} yield() end) resume(s) while true do end", 99, 4, 103 + 10 + 8 + 2 + 4);
        cellsLeft("s = create(function() local t = {} yield() end) resume(s) error()", 99, 5, 103 + 10 + 8 + 2 + 4);
        // A first call that had no fuel: statement, create, statement, resume, and its own.
        cellsLeft("s = create(function() local t = {} end) resume(s)", 4, 4, 103 + 10 + 2);
        cellsLeft("s = create(function() local t = {} end) resume(s)", 5, 4, 103 + 10);
        cellsLeft("s = wrap(function() local t = {} end) s()", 4, 4, 103 + 13 + 2);
        cellsLeft("s = wrap(function() local t = {} end) s()", 5, 4, 103 + 13);
        // A first call that had no room: 123 of 300 cells are the text's, and 170 or 169 are two strings.
        BENCH.heap(300);
        cellsLeft("local z, y = rep('z', 1000), rep('y', 328) s = create(function() end) resume(s)", 999, 6, 103 + 10 + 2);
        cellsLeft("local z, y = rep('z', 1000), rep('y', 320) s = create(function() end) resume(s)", 999, 0, 103 + 10);
        cellsLeft("local z, y = rep('z', 1000), rep('y', 304) s = wrap(function() end) s()", 999, 6, 103 + 13 + 2);
        cellsLeft("local z, y = rep('z', 1000), rep('y', 296) s = wrap(function() end) s()", 999, 0, 103 + 13);
        BENCH.heap(2000);
    }

    private static void countOfAnother() {
        BENCH.heap(2000);
        int[] others = {-1, -2, 4, 5, 256, 1 << 16, Integer.MAX_VALUE, Integer.MIN_VALUE};
        for (int what : others) {
            BENCH.same("count(" + what + ")", BENCH.script().count(what), -1);
        }
        BENCH.feed("print(1)            ");
        BENCH.same("count(2)", BENCH.script().count(2), 20);
        BENCH.same("a run", BENCH.script().run(8, 5), 0);
        BENCH.same("count(0)", BENCH.script().count(0), 3);
        BENCH.same("count(1)", BENCH.script().count(1), 100);
        BENCH.same("count(2)", BENCH.script().count(2), 0);
        BENCH.same("count(3)", BENCH.script().count(3), 2);
        BENCH.fetched();
    }
}
