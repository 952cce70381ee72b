/** Bridges, papers, images and counts at their bounds: each method holds one sentence of the document. */
public final class EdgesOfOthersTest {
    private static final Due DUE = new Due();

    public static void main(String[] args) {
        sixBridges();
        linesFrom0To60();
        tenNumbersOfHours();
        hoursOfWindsByTheirLeast();
        tenPapers();
        readFromItsDayOn();
        allOnWhichItRests();
        oneByAnotherInAnyOrder();
        bitsFrom0To255();
        theFirstDay();
        threeImages();
        theLatestImageIsGone();
        imagesOfFullAndEmpty();
        whatIsInNoImage();
        countsOfOthers();
        DUE.end();
    }

    /** "BRIDGES, 6 at most", "its number; -1: there are 6". */
    private static void sixBridges() {
        GallopRoads x = new GallopRoads();
        DUE.missing("27: none yet", () -> x.hours(0));
        for (int k = 0; k < 6; k++) {
            DUE.missing("26: not yet", () -> x.blows(x.count(5), 0, 0));
            DUE.is("25: bridge " + k, x.bridge(k), k);
            DUE.is("34: bridges", x.count(5), k + 1);
            DUE.is("26: its hours are 0 at first", x.blows(k, 9, 100 + k), 0);
        }
        for (int k = 0; k < 3; k++) {
            DUE.is("25: a seventh", x.bridge(60), -1);
            DUE.is("34: six", x.count(5), 6);
        }
        for (int k = 0; k < 6; k++) {
            DUE.is("27: each has its own", x.hours(k), 100 + k);
        }
        for (int bridge : new int[] {-1, 6, 7, Integer.MIN_VALUE, Integer.MAX_VALUE}) {
            DUE.missing("26: bridge " + bridge, () -> x.blows(bridge, 0, 0));
            DUE.missing("27: bridge " + bridge, () -> x.hours(bridge));
        }
    }

    /** "A BRIDGE with its LINE (0 to 60)". */
    private static void linesFrom0To60() {
        GallopRoads x = new GallopRoads();
        for (int line : new int[] {-1, 61, 99, Integer.MIN_VALUE, Integer.MAX_VALUE}) {
            DUE.illegal("25: line " + line, () -> x.bridge(line));
            DUE.is("25: refused, no bridge", x.count(5), 0);
        }
        DUE.is("25: line 0", x.bridge(0), 0);
        DUE.is("25: line 60", x.bridge(60), 1);
    }

    /** "ten numbers, 0 to 999"; "what they were (0 at first)". */
    private static void tenNumbersOfHours() {
        GallopRoads x = new GallopRoads();
        x.bridge(0);
        for (int k = 0; k < 10; k++) {
            DUE.is("26: first", x.blows(0, k, 999), 0);
        }
        DUE.is("27: all of them", x.hours(0), 9990);
        for (int k : new int[] {-1, 10, Integer.MIN_VALUE, Integer.MAX_VALUE}) {
            DUE.illegal("26: k " + k, () -> x.blows(0, k, 5));
        }
        for (int hours : new int[] {-1, 1000, Integer.MIN_VALUE, Integer.MAX_VALUE}) {
            DUE.illegal("26: hours " + hours, () -> x.blows(0, 0, hours));
        }
        DUE.is("27: refused, nothing changed", x.hours(0), 9990);
        for (int k = 0; k < 10; k++) {
            DUE.is("26: what they were", x.blows(0, k, 0), 999);
        }
        DUE.is("27: none", x.hours(0), 0);
    }

    /** "those of winds whose least WIND is its LINE or more" (0 to 5, 6 to 11, .. , 54 to 59). */
    private static void hoursOfWindsByTheirLeast() {
        for (int line = 0; line <= 60; line++) {
            GallopRoads x = new GallopRoads();
            x.bridge(line);
            int due = 0;
            for (int k = 0; k < 10; k++) {
                x.blows(0, k, 1 << Math.min(k, 8));
                if (6 * k >= line) {
                    due += 1 << Math.min(k, 8);
                }
            }
            DUE.is("27: of line " + line, x.hours(0), due);
        }
        int[][] edges = {{0, 10}, {1, 9}, {5, 9}, {6, 9}, {7, 8}, {11, 8}, {12, 8}, {13, 7}, {53, 1}, {54, 1}, {55, 0}, {59, 0}, {60, 0}};
        for (int[] e : edges) {
            GallopRoads x = new GallopRoads();
            x.bridge(e[0]);
            for (int k = 0; k < 10; k++) {
                x.blows(0, k, 1);
            }
            DUE.is("27: kinds of winds of line " + e[0], x.hours(0), e[1]);
        }
    }

    /** "PAPERS, 10 at most", "how many there are; -1: there are 10". */
    private static void tenPapers() {
        GallopRoads x = new GallopRoads();
        DUE.is("34: none", x.count(6), 0);
        DUE.is("29: none tell nothing", x.known(999), 0);
        DUE.is("30: none tell nothing", x.could(1), -1);
        for (int k = 1; k <= 10; k++) {
            DUE.is("28: paper " + k, x.paper(0, k == 10 ? 128 : 1, 0), k);
            DUE.is("34: papers", x.count(6), k);
        }
        for (int k = 0; k < 3; k++) {
            DUE.is("28: an eleventh", x.paper(0, 64, 0), -1);
            DUE.is("34: ten", x.count(6), 10);
        }
        DUE.is("29: the tenth tells, the eleventh does not", x.known(0), 129);
    }

    /** "A DAY (0 to 999)", "read from its DAY on". */
    private static void readFromItsDayOn() {
        for (int day : new int[] {0, 1, 500, 998, 999}) {
            GallopRoads x = new GallopRoads();
            DUE.is("28: day " + day, x.paper(day, 9, 0), 1);
            DUE.is("29: on day " + day, x.known(day), 9);
            DUE.is("29: to the last", x.known(999), 9);
            if (day > 0) {
                DUE.is("29: the day ahead of " + day, x.known(day - 1), 0);
                DUE.is("29: on day 0", x.known(0), 0);
            }
            DUE.is("30: day " + day, x.could(9), day);
            DUE.is("30: a part of it", x.could(8), day);
            DUE.is("30: more than it", x.could(11), -1);
        }
        GallopRoads x = new GallopRoads();
        x.paper(999, 1, 0);
        String was = Due.seen(x);
        for (int day : new int[] {-1, 1000, Integer.MIN_VALUE, Integer.MAX_VALUE}) {
            DUE.illegal("28: day " + day, () -> x.paper(day, 2, 0));
            DUE.illegal("29: day " + day, () -> x.known(day));
        }
        DUE.same("28: refused, no paper", Due.seen(x), was);
    }

    /** "by one who knows all on which it rests". */
    private static void allOnWhichItRests() {
        GallopRoads x = new GallopRoads();
        x.paper(0, 1, 0);
        x.paper(0, 16, 3);
        DUE.is("29: one of two is not all", x.known(0), 1);
        x.paper(5, 2, 0);
        DUE.is("29: not yet", x.known(4), 1);
        DUE.is("29: both", x.known(5), 19);
        DUE.is("30: both", x.could(16), 5);
        GallopRoads y = new GallopRoads();
        y.paper(0, 1, 1);
        DUE.is("29: what rests on itself", y.known(999), 0);
        DUE.is("30: never", y.could(1), -1);
        y.paper(3, 1, 0);
        DUE.is("29: told by another", y.known(3), 1);
        y.paper(4, 255, 255);
        y.paper(7, 2, 4);
        y.paper(7, 4, 2);
        DUE.is("29: two that rest on each other", y.known(999), 1);
        GallopRoads z = new GallopRoads();
        z.paper(0, 0, 0);
        DUE.is("29: it tells nothing", z.known(0), 0);
        z.paper(0, 255, 0);
        z.paper(0, 0, 255);
        DUE.is("29: all is known", z.known(0), 255);
    }

    /** "(one by another, in any order)": ten in a row, each opens the next, from either end. */
    private static void oneByAnotherInAnyOrder() {
        for (int way = 0; way < 2; way++) {
            GallopRoads x = new GallopRoads();
            for (int k = 0; k < 8; k++) {
                int step = way == 0 ? k : 7 - k;
                x.paper(10, 1 << step, step == 0 ? 0 : 1 << step - 1);
            }
            DUE.is("29: all by one another, way " + way, x.known(10), 255);
            DUE.is("30: all by one another, way " + way, x.could(255), 10);
            DUE.is("29: the day ahead, way " + way, x.known(9), 0);
        }
        GallopRoads x = new GallopRoads();
        x.paper(1, 128, 64);
        x.paper(1, 64, 32);
        x.paper(1, 1, 0);
        x.paper(1, 32, 16);
        x.paper(1, 16, 8);
        x.paper(1, 8, 4);
        x.paper(1, 4, 2);
        x.paper(2, 2, 1);
        DUE.is("29: the link is not out yet", x.known(1), 1);
        DUE.is("29: all on day 2", x.known(2), 255);
        DUE.is("30: the end of the chain", x.could(128), 2);
    }

    /** "bits (0 to 255 each)", promise 30: "IllegalArgumentException: the bits." */
    private static void bitsFrom0To255() {
        GallopRoads x = new GallopRoads();
        for (int bits : new int[] {-1, 256, 511, Integer.MIN_VALUE, Integer.MAX_VALUE}) {
            DUE.illegal("28: tells " + bits, () -> x.paper(0, bits, 0));
            DUE.illegal("28: rests " + bits, () -> x.paper(0, 0, bits));
            DUE.illegal("30: could " + bits, () -> x.could(bits));
            DUE.is("28: refused, no paper", x.count(6), 0);
        }
        DUE.is("28: all bits", x.paper(0, 255, 0), 1);
        DUE.is("28: rests on all", x.paper(0, 0, 255), 2);
        DUE.is("29: all", x.known(0), 255);
        DUE.is("30: all", x.could(255), 0);
        DUE.is("30: nothing", x.could(0), 0);
    }

    /** "the first DAY on which told bits are all KNOWN"; "NONE: never". */
    private static void theFirstDay() {
        GallopRoads x = new GallopRoads();
        DUE.is("30: nothing is known at once", x.could(0), 0);
        x.paper(30, 1, 0);
        x.paper(20, 2, 0);
        x.paper(10, 4, 0);
        DUE.is("30: nothing is known still", x.could(0), 0);
        DUE.is("30: 4", x.could(4), 10);
        DUE.is("30: 2 and 4", x.could(6), 20);
        DUE.is("30: all three", x.could(7), 30);
        DUE.is("30: 1", x.could(1), 30);
        DUE.is("30: never", x.could(8), -1);
        DUE.is("30: never together", x.could(15), -1);
        x.paper(15, 1, 0);
        DUE.is("30: earlier by another", x.could(1), 15);
        DUE.is("30: all three, earlier", x.could(7), 20);
        x.paper(0, 7, 0);
        DUE.is("30: day 0", x.could(7), 0);
    }

    /** "how many there are; -1: there are 3"; "how many are left; -1: there is none". */
    private static void threeImages() {
        GallopRoads x = new GallopRoads();
        for (int round = 0; round < 3; round++) {
            DUE.is("33: none", x.restore(), -1);
            DUE.is("34: none", x.count(7), 0);
            for (int k = 1; k <= 3; k++) {
                DUE.is("32: image " + k, x.image(), k);
                DUE.is("34: images", x.count(7), k);
            }
            DUE.is("32: a fourth", x.image(), -1);
            DUE.is("32: a fifth", x.image(), -1);
            DUE.is("34: three", x.count(7), 3);
            for (int k = 2; k >= 0; k--) {
                DUE.is("33: left", x.restore(), k);
                DUE.is("34: left", x.count(7), k);
            }
        }
        GallopRoads y = new GallopRoads();
        y.set(0, 50);
        DUE.is("33: without an image", y.restore(), -1);
        DUE.is("33: nothing changed", y.count(20), 50);
        y.image();
        y.image();
        y.set(0, 51);
        y.image();
        y.set(0, 52);
        DUE.is("32: full", y.image(), -1);
        y.set(0, 53);
        y.restore();
        DUE.is("33: the third, not the refused one", y.count(20), 51);
    }

    /** "All is as in the latest IMAGE, which is gone". */
    private static void theLatestImageIsGone() {
        GallopRoads x = new GallopRoads();
        x.deck(5);
        x.image();
        x.deck(6);
        x.image();
        x.deck(7);
        DUE.is("33: the latest", x.restore(), 1);
        DUE.is("33: six", x.count(0), 6);
        x.deck(8);
        DUE.is("32: in its place", x.image(), 2);
        x.deck(2);
        x.restore();
        DUE.is("33: eight", x.count(0), 8);
        x.restore();
        DUE.is("33: five", x.count(0), 5);
        DUE.is("33: none is left", x.restore(), -1);
        DUE.is("33: five still", x.count(0), 5);
    }

    /** An IMAGE of all that is full brings it back upon what is empty, and the other way round. */
    private static void imagesOfFullAndEmpty() {
        GallopRoads x = DeckTest.bare("twist 500*piece;");
        x.image();
        String empty = Due.seen(x);
        fill(x);
        String full = Due.seen(x);
        DUE.is("32: of all that is full", x.image(), 2);
        x.restore();
        DUE.same("33: full", Due.seen(x), full.replace("7:2", "7:1"));
        DUE.is("33: no row more", x.film(1, 0, 0, 0), -1);
        DUE.is("33: no mend more", x.mend(0, 0, 0), -1);
        DUE.is("33: no bridge more", x.bridge(0), -1);
        DUE.is("33: no paper more", x.paper(0, 0, 0), -1);
        x.restore();
        DUE.same("33: empty", Due.seen(x), empty.replace("7:1", "7:0"));
        DUE.missing("33: no bridge", () -> x.hours(0));
        DUE.missing("33: no piece 4", () -> x.piece(4, 0));
        DUE.is("33: the first row", x.film(1, 0, 0, 0), 1);
        DUE.is("33: the first mend", x.mend(0, 0, 0), 0);
        DUE.is("33: the first bridge", x.bridge(0), 0);
        DUE.is("33: its hours are 0", x.blows(0, 9, 1), 0);
        DUE.is("33: the first paper", x.paper(0, 0, 0), 1);
    }

    private static void fill(GallopRoads x) {
        x.deck(8);
        x.set(9, 1);
        x.go(0, 0, 9);
        for (int k = 0; k < 20; k++) {
            x.film(1 + k, k % 8, k, -k);
        }
        for (int k = 0; k < 5; k++) {
            x.mend(6, k, k);
        }
        for (int k = 0; k < 6; k++) {
            x.bridge(10 * k);
            x.blows(k, 9, 900 + k);
        }
        for (int k = 0; k < 10; k++) {
            x.paper(100 * k, 1 << k % 8, 0);
        }
    }

    /** Laws, the TAPE and the latest FAULT are in no IMAGE. */
    private static void whatIsInNoImage() {
        GallopRoads x = new GallopRoads();
        x.image();
        for (int k = 0; k < 4; k++) {
            Due.law(x, "lift " + k + ";");
        }
        x.feed(1, 2, 3, 4, 5);
        DUE.is("33: restore", x.restore(), 0);
        DUE.is("34: laws stay", x.count(1), 4);
        DUE.is("34: the tape stays", x.count(8), 20);
        DUE.is("11: they are as they were", x.push(3, 0, 0, false), 3);
        x.image();
        Due.law(x, "lift 5;");
        DUE.is("32: an image changes nothing", x.count(1), 4);
    }

    /** "NONE for others". */
    private static void countsOfOthers() {
        GallopRoads x = new GallopRoads();
        for (int what = -3; what <= 40; what++) {
            boolean told = what >= 0 && what <= 10 || what >= 20 && what <= 29;
            DUE.is("34: count(" + what + ") is told", x.count(what) != -1, told);
        }
        for (int what : new int[] {Integer.MIN_VALUE, Integer.MAX_VALUE, -20, 100, 1000}) {
            DUE.is("34: count(" + what + ")", x.count(what), -1);
        }
    }
}
