import java.io.IOException;
import java.nio.file.Files;
import java.nio.file.Path;
import java.util.HashMap;
import java.util.Map;
import java.util.regex.Matcher;
import java.util.regex.Pattern;

/** The example of README.md: its lines stand here, too, and answer what it says. It is run in the project's folder. */
public final class ReadmeTest {
    private static final Due DUE = new Due();

    public static void main(String[] args) throws IOException {
        Map<String, Integer> answers = example();
        String own = Files.readString(Path.of("src/test/java/ReadmeTest.java"));
        int told = 0;
        boolean code = false;
        for (String line : Files.readString(Path.of("README.md")).split("\n")) {
            if (line.startsWith("```")) {
                code = line.equals("```java");
            } else if (code) {
                String bare = line.replaceAll("\\s*// .*", "").trim();
                DUE.is("'" + bare + "' stands in this test", own.contains(bare), true);
                told += answerIsAsTold(line, answers);
            }
        }
        DUE.is("calls that the example tells", told, answers.size());
        DUE.end();
    }

    /** 1 if a line of the example tells an answer, which is then held against the one that came. */
    private static int answerIsAsTold(String line, Map<String, Integer> answers) {
        Matcher m = Pattern.compile("^int (\\w+) = .*; *// (-?\\d+): .*$").matcher(line);
        if (!m.matches()) {
            return 0;
        }
        Integer got = answers.get(m.group(1));
        DUE.is("README.md: " + m.group(1), got == null ? Long.MIN_VALUE : got, Long.parseLong(m.group(2)));
        return 1;
    }

    private static Map<String, Integer> example() {
        GallopRoads road = new GallopRoads();
        int law = lawOf(road, "lift up * wind / 40; twist spin * wind / 40 if wind > 5;");
        int faulty = lawOf(road, "lift wind +;");
        int place = road.fault();
        int had = road.deck(6);
        int clamp = road.set(8, 10);
        int size = road.shape(1, 2, 100);
        int widest = road.go(law, 20, 5);
        int turn = road.piece(0, 1);
        int twist = road.push(law, 20, 0, true);
        int line = road.line(law, 1, 2);
        int most = road.span(law, 1, 4, 20, true);
        int tick = road.first(law, 20, 1, 2, false);
        int piece = road.where(law, 20, 1, 2, false);
        int loss = road.mend(4, 10, 7);
        int mass = road.mend(0, 20, 5);
        int both = road.mended(law, 19);
        int best = road.week(law, 0);
        int images = road.image();
        int ticks = road.count(2);
        int again = road.deck(3);
        int left = road.restore();
        int pieces = road.count(0);
        String[] names = {"law", "faulty", "place", "had", "clamp", "size", "widest", "turn", "twist", "line", "most", "tick",
            "piece", "loss", "mass", "both", "best", "images", "ticks", "again", "left", "pieces"};
        int[] values = {law, faulty, place, had, clamp, size, widest, turn, twist, line, most, tick,
            piece, loss, mass, both, best, images, ticks, again, left, pieces};
        Map<String, Integer> answers = new HashMap<>();
        for (int k = 0; k < names.length; k++) {
            answers.put(names[k], values[k]);
        }
        return answers;
    }

    static int lawOf(GallopRoads road, String text) {
        for (int at = 0; at < text.length(); at += 20) {
            int[] five = new int[5];
            for (int k = 0; k < 20 && at + k < text.length(); k++) {
                five[k / 4] |= text.charAt(at + k) << 24 - k % 4 * 8;
            }
            road.feed(five[0], five[1], five[2], five[3], five[4]);
        }
        return road.law(text.length());
    }
}
