import com.sun.management.ThreadMXBean;
import java.lang.management.ManagementFactory;

/** All calls of one run live in one room: an object makes its rows once, and calls make next to nothing. */
final class RoomTest {
    private static final Bench BENCH = new Bench("RoomTest");
    private static final ThreadMXBean THREADS = (ThreadMXBean) ManagementFactory.getThreadMXBean();

    private static long made() {
        return THREADS.getThreadAllocatedBytes(Thread.currentThread().getId());
    }

    private static void atMost(String what, long got, long most) {
        BENCH.same(what + ": " + got + " bytes are more than " + most, got > most ? 1 : 0, 0);
    }

    public static void main(String[] args) {
        new StrandScript(8000);
        long before = made();
        StrandScript script = new StrandScript(8000);
        atMost("a new object", made() - before, 2000000);
        int[] text = words("for i=1,900 do local t={i,'k'..i,function() return i end,wrap(function(a) yield(a) end)} t[4](i) end ");
        before = made();
        for (int i = 0; i < 60; i++) {
            for (int k = 0; k < text.length; k += 5) {
                script.feed(text[k], text[k + 1], text[k + 2], text[k + 3], text[k + 4]);
            }
            BENCH.same("run " + i, script.run(text.length * 4, 20000), 0);
        }
        atMost("60 runs of all kinds of objects", made() - before, 200000);
        BENCH.finish();
    }

    /** A text as numbers of four bytes, with blanks behind it. */
    private static int[] words(String text) {
        int[] words = new int[(text.length() + 19) / 20 * 5];
        for (int i = 0; i < words.length * 4; i++) {
            words[i / 4] = words[i / 4] << 8 | (i < text.length() ? text.charAt(i) : ' ');
        }
        return words;
    }
}
