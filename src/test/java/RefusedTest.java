/**
 * Calls that are refused: with which exception, which of several comes first ("that is told first
 * behind its throws"), and that they change nothing.
 */
public final class RefusedTest {
    private static final Due DUE = new Due();
    private static final int LOW = Integer.MIN_VALUE;
    private static final int HIGH = Integer.MAX_VALUE;

    public static void main(String[] args) {
        ofLawsAndDecks();
        ofGoPieceAndPush();
        ofShapesByALaw();
        ofLinesSpansAndSlips();
        ofFilmAndBarred();
        ofMendsCalmAndWeeks();
        ofBridges();
        ofPapers();
        ofShut();
        refusedAsTheyAreFull();
        DUE.end();
    }

    /** An object in which something of all there is: three laws, torn, slipped, ticks, a film, .. */
    private static GallopRoads used() {
        GallopRoads x = DeckTest.bare("twist 100*piece;lift 7;", "lift sign(height) if holes<4;", "lift wind;twist turn/9;");
        Due.law(x, "lift 10000;");
        x.deck(5);
        x.set(9, 250);
        x.go(0, 3, 2);
        x.stay(4, false);
        x.film(3, 4, 21, 700);
        x.film(9, 1, -5, 0);
        x.mend(6, 5, 30);
        x.mend(6, 4, 20);
        x.bridge(12);
        x.blows(0, 5, 77);
        x.paper(4, 3, 0);
        x.image();
        x.feed(0x6C696674, 0x20353B20, 0, 0, 0);
        return x;
    }

    /** One of the calls of a group, on an object; k tells which. */
    private interface Group {
        long call(GallopRoads x, int k);
    }

    private static void refused(String name, Class<? extends RuntimeException> due, int many, Group group) {
        GallopRoads x = used();
        String was = Due.seen(x);
        for (int k = 0; k < many; k++) {
            int n = k;
            DUE.raises(name + ", " + k, due, () -> group.call(x, n));
        }
        DUE.same(name + ": it changes nothing", Due.seen(x), was);
        DUE.is(name + ": the tape is as it was", x.law(8), 3);
        DUE.is(name + ": its bytes, too", x.push(3, 0, 0, false), 5);
        DUE.is(name + ": the image is as it was", x.restore(), 0);
        DUE.is(name + ": one row is seen", x.barred(1, 0, 0, 1, 1, 20), 0);
    }

    private static void illegal(String name, int many, Group group) {
        refused(name, IllegalArgumentException.class, many, group);
    }

    private static void index(String name, int many, Group group) {
        refused(name, IndexOutOfBoundsException.class, many, group);
    }

    private static void missing(String name, int many, Group group) {
        refused(name, java.util.NoSuchElementException.class, many, group);
    }

    private static void ofLawsAndDecks() {
        int[] n = {-1, 21, 300, 301, LOW, HIGH};
        illegal("3: law", n.length, (x, k) -> x.law(n[k]));
        int[] pieces = {1, 9, 0, -1, LOW, HIGH};
        illegal("5: deck", pieces.length, (x, k) -> x.deck(pieces[k]));
        int[][] set = {{-1, 1}, {10, 1}, {LOW, 1}, {HIGH, 1}, {0, 0}, {0, 100}, {1, -1}, {1, 100}, {7, 10_000}, {7, -1},
            {9, 1_000_000}, {9, -1}, {5, LOW}, {5, HIGH}};
        illegal("6: set", set.length, (x, k) -> x.set(set[k][0], set[k][1]));
        int[] piece = {-1, 5, 8, LOW, HIGH};
        missing("7: stay", 2 * piece.length, (x, k) -> x.stay(piece[k / 2], k % 2 == 0));
        int[][] shape = {{-1, 1, 1}, {2, 1, 1}, {0, 0, 1}, {1, 5, 1}, {0, 1, 0}, {1, 4, 10_000}, {LOW, LOW, LOW}, {HIGH, HIGH, HIGH}};
        illegal("8: shape", shape.length, (x, k) -> x.shape(shape[k][0], shape[k][1], shape[k][2]));
    }

    private static void ofGoPieceAndPush() {
        int[][] go = {{-1, 1}, {100, 1}, {0, -1}, {0, 101}, {LOW, LOW}, {HIGH, HIGH}, {99, 101}, {100, 100}};
        illegal("9: go", go.length, (x, k) -> x.go(1, go[k][0], go[k][1]));
        int[] law = {-1, 3, 4, LOW, HIGH};
        index("9: go, no such law", law.length, (x, k) -> x.go(law[k], 0, 1));
        index("9: go, the law ahead of all", go.length, (x, k) -> x.go(3, go[k][0], go[k][1]));
        int[] piece = {-1, 5, 8, LOW, HIGH};
        missing("10: piece", piece.length, (x, k) -> x.piece(piece[k], 0));
        missing("10: the piece ahead of what", piece.length, (x, k) -> x.piece(piece[k], 6));
        int[] what = {-1, 6, LOW, HIGH};
        illegal("10: what", what.length, (x, k) -> x.piece(4, what[k]));
        index("11: push, no such law", law.length, (x, k) -> x.push(law[k], 0, 0, true));
        index("11: the law ahead of all", piece.length, (x, k) -> x.push(3, 100, piece[k], false));
        missing("11: the piece", piece.length, (x, k) -> x.push(0, 0, piece[k], false));
        missing("11: the piece ahead of the wind", piece.length, (x, k) -> x.push(0, 100, piece[k], true));
        int[] wind = {-1, 100, LOW, HIGH};
        illegal("11: the wind", wind.length, (x, k) -> x.push(0, wind[k], 4, true));
    }

    private static final int[][] SHAPED = {{-1, 0, 1}, {100, 0, 1}, {0, -1, 1}, {0, 2, 1}, {0, 0, 0}, {0, 0, 5}, {0, 1, 0}, {0, 1, 5},
        {LOW, 0, 1}, {HIGH, 0, 1}, {0, LOW, 1}, {0, HIGH, 1}, {0, 0, LOW}, {0, 0, HIGH}, {LOW, LOW, LOW}, {HIGH, HIGH, HIGH}};

    private static void ofShapesByALaw() {
        int[][] w = SHAPED;
        illegal("12: grows", w.length, (x, k) -> x.grows(0, w[k][0], w[k][1], w[k][2]) ? 1 : 0);
        illegal("14: why", w.length, (x, k) -> x.why(0, w[k][0], w[k][1], w[k][2]));
        illegal("15: first", w.length, (x, k) -> x.first(0, w[k][0], w[k][1], w[k][2], k % 2 == 0));
        illegal("16: where", w.length, (x, k) -> x.where(0, w[k][0], w[k][1], w[k][2], k % 2 == 0));
        int[] law = {-1, 3, 4, LOW, HIGH};
        for (int i = 0; i < 2; i++) {
            // with all else in order, and with nothing in order
            int[] rest = i == 0 ? new int[] {0, 0, 1} : new int[] {100, 2, 5};
            index("12: grows, no such law", law.length, (x, k) -> x.grows(law[k], rest[0], rest[1], rest[2]) ? 1 : 0);
            index("14: why, no such law", law.length, (x, k) -> x.why(law[k], rest[0], rest[1], rest[2]));
            index("15: first, no such law", law.length, (x, k) -> x.first(law[k], rest[0], rest[1], rest[2], true));
            index("16: where, no such law", law.length, (x, k) -> x.where(law[k], rest[0], rest[1], rest[2], false));
        }
    }

    private static void ofLinesSpansAndSlips() {
        int[][] line = {{-1, 1}, {2, 1}, {0, 0}, {1, 5}, {LOW, 1}, {HIGH, 1}, {0, LOW}, {1, HIGH}};
        illegal("13: line", line.length, (x, k) -> x.line(0, line[k][0], line[k][1]));
        illegal("24: span", line.length, (x, k) -> x.span(0, line[k][0], line[k][1], 50, true));
        int[] s = {-1, 51, LOW, HIGH};
        illegal("24: s", s.length, (x, k) -> x.span(0, 0, 1, s[k], k % 2 == 0));
        int[][] slip = {{-1, 1}, {100, 1}, {0, 0}, {99, 5}, {LOW, 1}, {HIGH, 1}, {0, LOW}, {0, HIGH}};
        illegal("17: slip", slip.length, (x, k) -> x.slip(0, slip[k][0], slip[k][1]));
        int[] law = {-1, 3, 4, LOW, HIGH};
        index("13: line, no such law", law.length, (x, k) -> x.line(law[k], 0, 1));
        index("13: line, the law ahead", law.length, (x, k) -> x.line(law[k], 2, 0));
        index("17: slip, no such law", law.length, (x, k) -> x.slip(law[k], 0, 1));
        index("17: slip, the law ahead", law.length, (x, k) -> x.slip(law[k], 100, 5));
        index("24: span, no such law", law.length, (x, k) -> x.span(law[k], 0, 1, 0, true));
        index("24: span, the law ahead", law.length, (x, k) -> x.span(law[k], 2, 5, 51, true));
    }

    private static void ofFilmAndBarred() {
        int[][] film = {{0, 0, 0}, {101, 0, 0}, {1, 1_000_001, 0}, {1, -1_000_001, 0}, {1, 0, 1_000_001}, {100, 0, -1_000_001},
            {LOW, 0, 0}, {HIGH, 0, 0}, {1, LOW, 0}, {1, HIGH, 0}, {1, 0, LOW}, {1, 0, HIGH}};
        illegal("18: film", film.length, (x, k) -> x.film(film[k][0], 4, film[k][1], film[k][2]));
        int[] piece = {-1, 5, 8, LOW, HIGH};
        missing("18: the piece", piece.length, (x, k) -> x.film(1, piece[k], 0, 0));
        missing("18: the piece ahead of all", film.length, (x, k) -> x.film(film[k][0], 5, film[k][1], film[k][2]));
        int[][] w = SHAPED;
        illegal("19: barred", w.length, (x, k) -> x.barred(0, w[k][0], w[k][1], w[k][2], 1, 0));
        int[][] more = {{0, 0}, {10_000, 0}, {1, -1}, {1, 1_000_001}, {-1, 0}, {LOW, 0}, {HIGH, 0}, {1, LOW}, {1, HIGH}};
        illegal("19: size and number", more.length, (x, k) -> x.barred(0, 0, 0, 1, more[k][0], more[k][1]));
        int[] law = {-1, 3, 4, LOW, HIGH};
        index("19: no such law", law.length, (x, k) -> x.barred(law[k], 0, 0, 1, 1, 0));
        index("19: the law ahead", law.length, (x, k) -> x.barred(law[k], 100, 2, 5, 0, -1));
    }

    private static void ofMendsCalmAndWeeks() {
        int[][] mend = {{-1, 0, 0}, {10, 0, 0}, {0, 1_000_000, 0}, {9, -1_000_000, 0}, {0, 0, -1}, {9, 0, 1000}, {LOW, 0, 0},
            {HIGH, 0, 0}, {0, LOW, 0}, {0, HIGH, 0}, {0, 0, LOW}, {0, 0, HIGH}};
        illegal("20: mend", mend.length, (x, k) -> x.mend(mend[k][0], mend[k][1], mend[k][2]));
        int[] wind = {-1, 100, LOW, HIGH};
        illegal("21: calm", wind.length, (x, k) -> x.calm(0, wind[k]) ? 1 : 0);
        illegal("22: mended", wind.length, (x, k) -> x.mended(0, wind[k]));
        int[] day = {-1, -2, LOW};
        illegal("23: week", day.length, (x, k) -> x.week(0, day[k]));
        int[] law = {-1, 3, 4, LOW, HIGH};
        for (int v = -1; v <= 0; v++) {
            int rest = v;
            index("21: calm, no such law", law.length, (x, k) -> x.calm(law[k], rest) ? 1 : 0);
            index("22: mended, no such law", law.length, (x, k) -> x.mended(law[k], rest));
            index("23: week, no such law", law.length, (x, k) -> x.week(law[k], rest));
        }
    }

    private static void ofBridges() {
        int[] line = {-1, 61, LOW, HIGH};
        illegal("25: bridge", line.length, (x, k) -> x.bridge(line[k]));
        int[][] blows = {{-1, 0}, {10, 0}, {0, -1}, {9, 1000}, {LOW, 0}, {HIGH, 0}, {0, LOW}, {0, HIGH}};
        illegal("26: blows", blows.length, (x, k) -> x.blows(0, blows[k][0], blows[k][1]));
        int[] bridge = {-1, 1, 6, LOW, HIGH};
        missing("26: no such bridge", bridge.length, (x, k) -> x.blows(bridge[k], 0, 0));
        missing("26: the bridge ahead of all", blows.length, (x, k) -> x.blows(1, blows[k][0], blows[k][1]));
        missing("27: hours", bridge.length, (x, k) -> x.hours(bridge[k]));
    }

    private static void ofPapers() {
        int[][] paper = {{-1, 0, 0}, {1000, 0, 0}, {0, -1, 0}, {999, 256, 0}, {0, 0, -1}, {0, 0, 256}, {LOW, 0, 0}, {HIGH, 0, 0},
            {0, LOW, 0}, {0, HIGH, 0}, {0, 0, LOW}, {0, 0, HIGH}};
        illegal("28: paper", paper.length, (x, k) -> x.paper(paper[k][0], paper[k][1], paper[k][2]));
        int[] day = {-1, 1000, LOW, HIGH};
        illegal("29: known", day.length, (x, k) -> x.known(day[k]));
        int[] bits = {-1, 256, LOW, HIGH};
        illegal("30: could", bits.length, (x, k) -> x.could(bits[k]));
    }

    private static void ofShut() {
        int[][] w = SHAPED;
        illegal("31: shut", w.length, (x, k) -> x.shut(0, w[k][0], w[k][1], w[k][2], 1, 0));
        int[][] more = {{0, 0}, {10_000, 0}, {1, -1}, {1, 1_000_001}, {-1, 0}, {LOW, 0}, {HIGH, 0}, {1, LOW}, {1, HIGH}};
        illegal("31: size and number", more.length, (x, k) -> x.shut(0, 0, 0, 1, more[k][0], more[k][1]));
        int[] law = {-1, 3, 4, LOW, HIGH};
        index("31: no such law", law.length, (x, k) -> x.shut(law[k], 0, 0, 1, 1, 0));
        index("31: the law ahead", law.length, (x, k) -> x.shut(law[k], 100, 2, 5, 0, -1));
    }

    /** Answers -1 (and NONE of feed) change nothing, either; and questions never do. */
    private static void refusedAsTheyAreFull() {
        GallopRoads x = used();
        for (int k = 0; k < 20; k++) {
            x.film(1, 0, 7, 0);
            x.mend(6, 1, 1);
            x.bridge(3);
            x.paper(9, 4, 0);
            x.image();
            x.feed(0x20202020, 0x20202020, 0x20202020, 0x20202020, 0x20202020);
        }
        String was = Due.seen(x);
        DUE.is("18: full", x.film(2, 1, 8, 1), -1);
        DUE.is("20: full", x.mend(0, 2, 0), -1);
        DUE.is("25: full", x.bridge(4), -1);
        DUE.is("28: full", x.paper(0, 128, 0), -1);
        DUE.is("32: full", x.image(), -1);
        DUE.is("2: full", x.feed(0, 0, 0, 0, 0), -1);
        DUE.same("full, nothing changes", Due.seen(x), was);
        GallopRoads y = used();
        was = Due.seen(y);
        y.line(0, 1, 2);
        y.why(2, 5, 1, 3);
        y.first(0, 5, 1, 3, true);
        y.where(0, 5, 1, 3, false);
        y.slip(2, 9, 4);
        y.span(2, 1, 3, 20, true);
        y.calm(2, 9);
        y.grows(2, 9, 1, 1);
        y.shut(0, 50, 1, 3, 500, 99_000);
        y.could(3);
        y.count(7);
        DUE.same("questions change nothing", Due.seen(y), was);
        DUE.is("33: nor any image", y.restore(), 0);
        GallopRoads z = new GallopRoads();
        was = Due.seen(z);
        DUE.is("33: none", z.restore(), -1);
        DUE.is("9: no ticks at all are no change", Due.outcome(() -> z.go(0, 0, 0)).equals("java.lang.IndexOutOfBoundsException"), true);
        DUE.same("of a new object nothing changes", Due.seen(z), was);
    }
}
