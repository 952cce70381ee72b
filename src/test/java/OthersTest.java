/** Promises 25 to 30: other bridges and their winds, papers. */
public final class OthersTest {
    private static final Due DUE = new Due();

    public static void main(String[] args) {
        bridges();
        hours();
        papers();
        knownAndCould();
        DUE.end();
    }

    private static void bridges() {
        GallopRoads x = new GallopRoads();
        DUE.illegal("25: -1", () -> x.bridge(-1));
        DUE.illegal("25: 61", () -> x.bridge(61));
        DUE.missing("26: none yet", () -> x.blows(0, -1, -1));
        DUE.missing("27: none yet", () -> x.hours(0));
        for (int k = 0; k < 6; k++) {
            DUE.is("25: bridge " + k, x.bridge(10 * k), k);
        }
        DUE.is("25: a seventh", x.bridge(0), -1);
        DUE.illegal("25: wrong even then", () -> x.bridge(61));
        DUE.is("25: six", x.count(5), 6);
        DUE.missing("26: bridge 6", () -> x.blows(6, 0, 0));
        DUE.missing("26: bridge -1", () -> x.blows(-1, 0, 0));
        DUE.illegal("26: k -1", () -> x.blows(0, -1, 0));
        DUE.illegal("26: k 10", () -> x.blows(0, 10, 0));
        DUE.illegal("26: hours -1", () -> x.blows(0, 0, -1));
        DUE.illegal("26: hours 1000", () -> x.blows(0, 0, 1000));
        for (int k = 0; k < 10; k++) {
            DUE.is("26: first", x.blows(5, k, 990 + k), 0);
            DUE.is("26: then", x.blows(5, k, 0), 990 + k);
        }
        DUE.is("26: of one bridge alone", x.blows(4, 9, 999), 0);
        DUE.is("26: of one alone", x.blows(5, 0, 0), 0);
        DUE.missing("27: bridge 6", () -> x.hours(6));
        DUE.missing("27: bridge -1", () -> x.hours(-1));
    }

    private static void hours() {
        int[] lines = {0, 6, 7, 54, 55, 60};
        int[] due = {1023, 1022, 1020, 512, 0, 0};
        GallopRoads x = new GallopRoads();
        for (int b = 0; b < 6; b++) {
            x.bridge(lines[b]);
            DUE.is("27: no winds", x.hours(b), 0);
            for (int k = 0; k < 10; k++) {
                x.blows(b, k, 1 << k);
            }
            DUE.is("27: of line " + lines[b], x.hours(b), due[b]);
        }
        x.blows(0, 3, 0);
        DUE.is("27: less", x.hours(0), 1015);
        DUE.is("27: of one bridge alone", x.hours(1), 1022);
    }

    private static void papers() {
        GallopRoads x = new GallopRoads();
        DUE.illegal("28: day -1", () -> x.paper(-1, 0, 0));
        DUE.illegal("28: day 1000", () -> x.paper(1000, 0, 0));
        DUE.illegal("28: tells -1", () -> x.paper(0, -1, 0));
        DUE.illegal("28: tells 256", () -> x.paper(0, 256, 0));
        DUE.illegal("28: rests -1", () -> x.paper(0, 0, -1));
        DUE.illegal("28: rests 256", () -> x.paper(0, 0, 256));
        for (int k = 1; k <= 10; k++) {
            DUE.is("28: paper " + k, x.paper(999, 255, 255), k);
        }
        DUE.is("28: an eleventh", x.paper(0, 1, 0), -1);
        DUE.is("28: ten", x.count(6), 10);
        DUE.illegal("28: wrong even then", () -> x.paper(0, 256, 0));
        DUE.is("29: it came to nothing", x.known(999), 0);
    }

    private static void knownAndCould() {
        GallopRoads x = new GallopRoads();
        DUE.is("29: no papers", x.known(0), 0);
        DUE.is("30: no papers", x.could(1), -1);
        DUE.is("30: nothing to know", x.could(0), 0);
        // a chain that opens from the last to the first
        for (int k = 0; k < 7; k++) {
            x.paper(10 * k, 1 << k, 1 << k + 1);
        }
        DUE.is("29: closed", x.known(999), 0);
        x.paper(999, 128, 0);
        DUE.is("29: the day ahead", x.known(998), 0);
        DUE.is("29: all at once", x.known(999), 255);
        DUE.is("30: on the last day", x.could(1), 999);
        x.paper(25, 8, 0);
        // 8 opens 4 (day 20), 2 (10), 1 (0)
        DUE.is("29: day 24", x.known(24), 0);
        DUE.is("29: day 25", x.known(25), 15);
        DUE.is("30: 1", x.could(1), 25);
        DUE.is("30: 9", x.could(9), 25);
        DUE.is("30: with more", x.could(24), 999);
        x.paper(7, 2, 0);
        DUE.is("30: 2 opens 1", x.could(3), 7);
        DUE.is("30: 1 of it", x.could(1), 7);
        DUE.is("29: known", x.known(7), 3);
        DUE.is("29: not the day ahead", x.known(6), 0);
        DUE.illegal("29: -1", () -> x.known(-1));
        DUE.illegal("29: 1000", () -> x.known(1000));
        DUE.illegal("30: -1", () -> x.could(-1));
        DUE.illegal("30: 256", () -> x.could(256));
        GallopRoads one = new GallopRoads();
        one.paper(1, 128, 0);
        DUE.is("30: one paper", one.could(128), 1);
        DUE.is("30: never", one.could(129), -1);
        GallopRoads y = new GallopRoads();
        y.paper(0, 4, 0);
        y.paper(3, 1, 6);
        y.paper(2, 2, 4);
        DUE.is("30: on day 0", y.could(4), 0);
        DUE.is("30: rests on two", y.could(1), 3);
        DUE.is("30: never all", y.could(255), -1);
        DUE.is("29: on day 2", y.known(2), 6);
    }
}
