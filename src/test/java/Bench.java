/** What the tests share: an object under test, texts fed to it, and answers compared. */
final class Bench {
    private final String suite;
    private StrandScript script;
    private int wrong;
    private int looked;

    Bench(String suite) {
        this.suite = suite;
        script = new StrandScript(2000);
    }

    StrandScript script() {
        return script;
    }

    /** A new object with so many cells. */
    Bench heap(int cells) {
        script = new StrandScript(cells);
        return this;
    }

    /** Feeds a text, 20 bytes at a time, with bytes 0 behind it. */
    boolean feed(String text) {
        boolean all = true;
        for (int i = 0; i < text.length(); i += 20) {
            int[] words = new int[5];
            for (int k = 0; k < 20; k++) {
                int c = i + k < text.length() ? text.charAt(i + k) & 255 : 0;
                words[k / 4] = words[k / 4] << 8 | c;
            }
            all &= script.feed(words[0], words[1], words[2], words[3], words[4]);
        }
        return all;
    }

    int run(String text, int fuel) {
        feed(text);
        return script.run(text.length(), fuel);
    }

    /** All that waits. */
    String fetched() {
        StringBuilder all = new StringBuilder();
        for (int i = 0; i < 600; i++) {
            long next = script.fetch();
            for (int k = 0; k < next >>> 56; k++) {
                all.append((char) (next >>> 48 - 8 * k & 255));
            }
        }
        return all.toString();
    }

    void same(String what, long got, long want) {
        looked++;
        if (got != want) {
            wrong++;
            System.out.println(suite + ": " + what + " answered " + got + ", due is " + want);
        }
    }

    void same(String what, String got, String want) {
        looked++;
        if (!got.equals(want)) {
            wrong++;
            System.out.println(suite + ": " + what + " gave <" + got + ">, due is <" + want + ">");
        }
    }

    /** A text runs to its end and writes this. */
    void writes(String text, String want) {
        same("fault of " + text, run(text, 20000), 0);
        same("output of " + text, fetched(), want);
    }

    /** A text ends with an error that writes this behind what it wrote before. */
    void fails(String text, String want) {
        same("fault of " + text, run(text, 20000), 5);
        same("output of " + text, fetched(), want);
        same("place of " + text, script.place(), -1);
    }

    /** A text has a fault of its form, at a place. */
    void refuses(String text, int fault, int place) {
        same("fault of " + text, run(text, 77), fault);
        same("place in " + text, script.place(), place);
        same("fuel left of " + text, script.count(0), 77);
        same("cells of " + text, script.count(1), 100);
        same("output of " + text, fetched(), "");
    }

    /** A text takes so much fuel: with one less it is fault 4. */
    void burns(String text, int fuel) {
        same("fault with enough fuel of " + text, run(text, fuel), 0);
        same("fuel left of " + text, script.count(0), 0);
        fetched();
        if (fuel > 0) {
            same("fault with less fuel of " + text, run(text, fuel - 1), 4);
        }
        fetched();
    }

    /**
     * A text needs so many cells beyond the globals and its call, at its dearest place: in a heap
     * with just those it runs to its end, in one of a cell less it is fault 6.
     */
    void needs(String text, int beyond) {
        // Two strings of 1000 bytes and their global keys, so that no heap is below the least one.
        String ballast = "z = rep('z', 1000) y = rep('y', 1000); ";
        int cells = 108 + 2 * 130 + beyond;
        heap(cells);
        same("fault in " + cells + " cells of " + text, run(ballast + text, 20000), 0);
        heap(cells - 1);
        same("fault in one cell less of " + text, run(ballast + text, 20000), 6);
        heap(2000);
    }

    /** A text ends with a fault, what is left of its fuel, and what it writes. */
    void ends(String text, int fuel, int fault, int left, String written) {
        same("fault with fuel " + fuel + " of " + text, run(text, fuel), fault);
        same("fuel left of " + text, script.count(0), left);
        same("output of " + text, fetched(), written);
    }

    /** A part so many times. */
    static String times(String part, int n) {
        StringBuilder all = new StringBuilder();
        for (int i = 0; i < n; i++) {
            all.append(part);
        }
        return all.toString();
    }

    /** So many parts with their numbers, from 1 on, in place of %, and this between them. */
    static String numbered(String part, int n, String between) {
        StringBuilder all = new StringBuilder();
        for (int i = 1; i <= n; i++) {
            all.append(i > 1 ? between : "").append(part.replace("%", "" + i));
        }
        return all.toString();
    }

    void finish() {
        System.out.println(suite + ": " + (looked - wrong) + " of " + looked + " answers as due");
        if (wrong > 0) {
            System.exit(1);
        }
    }
}
