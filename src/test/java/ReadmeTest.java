import java.io.IOException;
import java.nio.file.Files;
import java.nio.file.Path;
import java.util.regex.Matcher;
import java.util.regex.Pattern;

/** The calls of README's example, done as they stand there: each line tells the answer that is due. */
final class ReadmeTest {
    private static final Bench BENCH = new Bench("ReadmeTest");
    private static final Pattern ROW = Pattern.compile("script\\.(\\w+)\\((.*?)\\);\\s*// ([^:]+)(:.*)?");
    private static final Pattern NEW = Pattern.compile("StrandScript script = new StrandScript\\((\\d+)\\);");

    public static void main(String[] args) throws IOException {
        int rows = 0;
        boolean example = false;
        StringBuilder calls = new StringBuilder();
        for (String line : Files.readAllLines(Path.of("README.md"))) {
            Matcher made = NEW.matcher(line);
            Matcher row = ROW.matcher(line);
            if (line.startsWith("```")) {
                example = line.equals("```java");
            } else if (example && made.matches()) {
                BENCH.heap(Integer.parseInt(made.group(1)));
            } else if (example) {
                BENCH.same("whether it is a call with an answer: " + line, row.matches() ? 1 : 0, 1);
                rows += row.matches() ? compare(row) : 0;
                calls.append(row.matches() ? row.group(1) : "").append(' ');
            }
        }
        BENCH.same("whether the example has calls", rows > 0 ? 1 : 0, 1);
        for (String name : new String[] {"feed", "run", "place", "fetch", "count"}) {
            BENCH.same("whether the example has " + name, calls.indexOf(name + " ") >= 0 ? 1 : 0, 1);
        }
        BENCH.finish();
    }

    private static int compare(Matcher row) {
        BENCH.same("README's " + row.group(0), answer(row.group(1), numbers(row.group(2))), number(row.group(3)));
        return 1;
    }

    private static long answer(String name, int[] n) {
        StrandScript script = BENCH.script();
        switch (name) {
            case "feed":
                return script.feed(n[0], n[1], n[2], n[3], n[4]) ? 1 : 0;
            case "run":
                return script.run(n[0], n[1]);
            case "place":
                return script.place();
            case "fetch":
                return script.fetch();
            default:
                return script.count(n[0]);
        }
    }

    private static int[] numbers(String list) {
        String[] parts = list.isEmpty() ? new String[0] : list.split(", ");
        int[] all = new int[parts.length];
        for (int i = 0; i < parts.length; i++) {
            all[i] = (int) number(parts[i]);
        }
        return all;
    }

    private static long number(String text) {
        String bare = text.trim();
        return bare.equals("true") ? 1 : bare.equals("false") ? 0 : Long.decode(bare);
    }
}
