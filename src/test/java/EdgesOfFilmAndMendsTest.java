/** The film, mends, weeks and models at their bounds: each method holds one sentence of the document. */
public final class EdgesOfFilmAndMendsTest {
    private static final Due DUE = new Due();
    private static final int[] LEAST = {1, 0, 0, 0, 0, 0, 0, 0, 0, 0};
    private static final int[] MOST = {99, 99, 99, 99, 99, 99, 99, 9999, 99, 999999};
    private static final String UP = "lift sign(height)*(1-sign(tick))";
    /**
     * Of each number a law that makes a SHAPE grow if the number is not IS (of STRONG: if no link tears).
     * What the number does is seen in tick 1 or 2; the other kind of places keeps it in mind, where it must.
     */
    private static final String[] LAWS_OF_NUMBERS = {
        "lift 5000*20 if tick=0;lift 0-5000*20 if tick=1;twist 99 if tick=1 and not up=5000*20/IS;",
        "twist 10 if tick=1 and not [up=0-IS or up=0-3*IS or up=3*IS] and not height=0;lift 9999*9 if tick=40 and turn>0;",
        "lift 10 if tick=1 and not [spin=0-IS or spin=0-3*IS or spin=3*IS] and not turn=0;twist 9999*9 if tick=40 and height>0;",
        "twist 10 if tick=1 and not [up=0-IS or up=IS] and not height=0;lift 9999*9 if tick=40 and turn>0;",
        "lift 1000 if tick=0;lift 0-10*up if tick>1;twist 10 if tick=2 and not up=100-IS;",
        UP + " if not side=IS;",
        UP + " if not holes=IS;",
        "twist 10*(IS+piece) if tick=0 and not height=0;"
            + "lift 10 if tick=2 and not height=0 and [piece=0 and spin>0 or piece=1 and spin<1];",
        "lift 10 if tick=1 and not [spin=0-IS or spin=IS] and not turn=0;twist 9999*9 if tick=40 and height>0;",
        "lift 10 if tick=2 and [spin=0-22 or spin=22];twist 9999*9 if tick=40 and height>0;",
    };

    public static void main(String[] args) {
        twentyRows();
        rowsWithinBounds();
        fartherThanATold();
        heightOrTurn();
        ticksFrom1To100();
        theFirstSuchRow();
        fromAShapeOn();
        piecesThatAreNoMore();
        fiveMends();
        mendsWithinBounds();
        boundsOfNumbers();
        boundsBetweenMends();
        calmByHalves1To3();
        mendedOfAllSets();
        leastCostThenFirstByBits();
        costsFrom0To999();
        weekOfWinds0To12();
        weekFromWind0On();
        weekOfThoseThatAreLeft();
        weekMendsAreMade();
        daysOfTheWeek();
        spansFrom0To50();
        spanIsCut();
        spanOfTheGreatestPushes();
        spanOfThoseThatThereAre();
        DUE.end();
    }

    /** "FILM: rows, 20 at most", "how many there are; -1: there are 20". */
    private static void twentyRows() {
        GallopRoads x = DeckTest.bare("");
        DUE.is("34: none", x.count(3), 0);
        DUE.is("19: no row, no bar", x.barred(0, 0, 0, 1, 1, 0), -1);
        for (int k = 1; k <= 20; k++) {
            DUE.is("18: row " + k, x.film(1, 0, 100 + (k == 20 ? 7 : 0), 0), k);
            DUE.is("34: rows", x.count(3), k);
        }
        for (int k = 0; k < 3; k++) {
            DUE.is("18: a 21st", x.film(1, 0, 1000, 1000), -1);
            DUE.is("34: twenty", x.count(3), 20);
        }
        DUE.is("19: the twentieth counts", x.barred(0, 0, 0, 1, 100, 6), 19);
        DUE.is("19: the 21st is none", x.barred(0, 0, 0, 1, 100, 7), -1);
    }

    /** "TICK (1 to 100)"; "height, turn (both -1,000,000 to 1,000,000)". */
    private static void rowsWithinBounds() {
        GallopRoads x = DeckTest.bare("");
        DUE.is("18: tick 1", x.film(1, 0, 0, 0), 1);
        DUE.is("18: tick 100", x.film(100, 3, 0, 0), 2);
        int rows = 2;
        for (int v : new int[] {-1_000_000, 1_000_000}) {
            DUE.is("18: height " + v, x.film(1, 0, v, 0), ++rows);
            DUE.is("18: turn " + v, x.film(1, 0, 0, v), ++rows);
        }
        for (int v : new int[] {-1_000_001, 1_000_001, Integer.MIN_VALUE, Integer.MAX_VALUE}) {
            DUE.illegal("18: height " + v, () -> x.film(1, 0, v, 0));
            DUE.illegal("18: turn " + v, () -> x.film(1, 0, 0, v));
        }
        for (int tick : new int[] {0, 101, -1, Integer.MIN_VALUE, Integer.MAX_VALUE}) {
            DUE.illegal("18: tick " + tick, () -> x.film(tick, 0, 0, 0));
        }
        DUE.is("18: refused, no row", x.count(3), 6);
    }

    /** "farther than a told number (0 to 1,000,000)", to both sides. */
    private static void fartherThanATold() {
        int[][] table = {{100, 0, 0}, {101, 1, 0}, {99, 1, 0}, {110, 10, 9}, {90, 10, 9}, {-100, 200, 199},
            {1_000_000, 999_900, 999_899}};
        for (int[] t : table) {
            GallopRoads x = DeckTest.bare("");
            x.film(1, 0, t[0], 0);
            DUE.is("19: " + t[0] + " is no farther than " + t[1], x.barred(0, 0, 0, 1, 100, t[1]), -1);
            DUE.is("19: " + t[0] + " is farther than " + t[2], x.barred(0, 0, 0, 1, 100, t[2]), t[1] == t[2] ? -1 : 0);
            GallopRoads y = DeckTest.bare("");
            y.film(1, 3, 0, t[0]);
            DUE.is("19: turned " + t[0] + ", no farther than " + t[1], y.barred(0, 0, 1, 1, 100, t[1]), -1);
            DUE.is("19: turned " + t[0] + ", farther than " + t[2], y.barred(0, 0, 1, 1, 100, t[2]), t[1] == t[2] ? -1 : 0);
        }
        GallopRoads x = DeckTest.bare("lift 9999*20;twist 0-9999*20;");
        x.film(50, 0, -1_000_000, -1_000_000);
        DUE.is("19: two millions apart", x.barred(0, 0, 0, 1, 1, 1_000_000), 0);
        GallopRoads y = DeckTest.bare("lift 9999*20;twist 0-9999*20;");
        y.film(50, 0, 0, 0);
        DUE.is("19: a million apart", y.barred(0, 0, 0, 1, 1, 1_000_000), -1);
        DUE.is("19: and farther than one less", y.barred(0, 0, 0, 1, 1, 999_999), 0);
        y.film(50, 0, -1, 0);
        DUE.is("19: one more than a million", y.barred(0, 0, 0, 1, 1, 1_000_000), 1);
    }

    /** "a row's height or turn". */
    private static void heightOrTurn() {
        GallopRoads x = DeckTest.bare("twist 5;");
        // 100 high, 5 turned behind tick 1
        x.film(1, 0, 100, 5);
        x.film(1, 0, 103, 5);
        x.film(1, 0, 100, 9);
        DUE.is("19: the height of row 1", x.barred(0, 0, 0, 1, 100, 2), 1);
        DUE.is("19: the turn of row 2", x.barred(0, 0, 0, 1, 100, 3), 2);
        DUE.is("19: none", x.barred(0, 0, 0, 1, 100, 4), -1);
    }

    /** "what it gives behind that TICK". */
    private static void ticksFrom1To100() {
        for (int tick : new int[] {1, 2, 30, 60, 61, 99, 100}) {
            GallopRoads x = DeckTest.bare("lift 1;", "lift 7 if tick=" + tick + ";");
            // lift 1: 1 + 2 + .. + tick
            int high = 100 + tick * (tick + 1) / 2;
            x.film(tick, 2, high, 0);
            DUE.is("19: tick " + tick, x.barred(0, 0, 0, 1, 100, 0), -1);
            x.film(tick, 2, high + 1, 0);
            DUE.is("19: one more behind tick " + tick, x.barred(0, 0, 0, 1, 100, 0), 1);
            GallopRoads y = DeckTest.bare("lift 7 if tick=" + tick + ";");
            y.film(tick, 2, 100, 0);
            DUE.is("19: what comes behind tick " + tick + " is no matter", y.barred(0, 0, 0, 1, 100, 0), -1);
        }
    }

    /** "the first such row": by rows, whatever their TICKS. */
    private static void theFirstSuchRow() {
        GallopRoads x = DeckTest.bare("");
        x.film(5, 0, 100, 0);
        x.film(100, 0, 130, 0);
        x.film(1, 0, 120, 0);
        x.film(50, 0, 120, 0);
        x.film(1, 0, 140, 0);
        DUE.is("19: the row of tick 100", x.barred(0, 0, 0, 1, 100, 19), 1);
        DUE.is("19: it still", x.barred(0, 0, 0, 1, 100, 29), 1);
        DUE.is("19: the last", x.barred(0, 0, 0, 1, 100, 30), 4);
        DUE.is("19: row 0", x.barred(0, 0, 0, 1, 99, 0), 0);
    }

    /** "from a SHAPE on (size told ..)" (1 to 9,999). */
    private static void fromAShapeOn() {
        GallopRoads x = DeckTest.bare("");
        x.film(1, 3, 9999, 0);
        DUE.is("19: size 9999", x.barred(0, 0, 0, 1, 9999, 0), -1);
        DUE.is("19: size 9998", x.barred(0, 0, 0, 1, 9998, 0), 0);
        DUE.is("19: size 1", x.barred(0, 0, 0, 1, 1, 9997), 0);
        DUE.is("19: size 1, no farther", x.barred(0, 0, 0, 1, 1, 9998), -1);
        DUE.is("19: piece 3 of four halves is down", x.barred(0, 0, 0, 4, 9999, 19_997), 0);
        DUE.is("19: as far", x.barred(0, 0, 0, 4, 9999, 19_998), -1);
    }

    /** "rows of PIECES that are no more are no matter". */
    private static void piecesThatAreNoMore() {
        GallopRoads x = DeckTest.bare("");
        x.deck(8);
        for (int piece = 7; piece >= 1; piece--) {
            x.film(1, piece, 500, 500);
        }
        for (int n = 8; n >= 2; n--) {
            x.deck(n);
            DUE.is("19: of " + n + " pieces", x.barred(0, 0, 0, 1, 100, 10), 8 - n);
            DUE.is("34: the rows stay", x.count(3), 7);
        }
        GallopRoads y = DeckTest.bare("");
        y.film(1, 3, 500, 500);
        y.deck(3);
        DUE.is("19: none that counts", y.barred(0, 0, 0, 1, 100, 0), -1);
    }

    /** "MENDS, 5 at most", "its number; -1: there are 5". */
    private static void fiveMends() {
        GallopRoads x = DeckTest.bare("lift 1 if tick=0 and holes<99;");
        DUE.is("34: none", x.count(4), 0);
        DUE.is("22: none", x.mended(0, 0), -1);
        DUE.is("23: none", x.week(0, 0), -1);
        for (int k = 0; k < 5; k++) {
            DUE.is("20: mend " + k, x.mend(6, k == 4 ? 99 : 0, 9), k);
            DUE.is("34: mends", x.count(4), k + 1);
        }
        for (int k = 0; k < 3; k++) {
            DUE.is("20: a sixth", x.mend(6, 99, 0), -1);
            DUE.is("34: five", x.count(4), 5);
        }
        DUE.is("22: the fifth counts", x.mended(0, 0), 16);
        DUE.is("23: the fifth counts", x.week(0, 0), 4);
    }

    /** "which, v (-999,999 to 999,999), COST" (0 to 999). */
    private static void mendsWithinBounds() {
        GallopRoads x = DeckTest.bare("");
        int[][] wrong = {{-1, 0, 0}, {10, 0, 0}, {Integer.MIN_VALUE, 0, 0}, {Integer.MAX_VALUE, 0, 0}, {0, -1_000_000, 0},
            {0, 1_000_000, 0}, {0, Integer.MIN_VALUE, 0}, {0, Integer.MAX_VALUE, 0}, {0, 0, -1}, {0, 0, 1000},
            {0, 0, Integer.MIN_VALUE}, {0, 0, Integer.MAX_VALUE}};
        for (int[] w : wrong) {
            DUE.illegal("20: mend " + w[0] + ", " + w[1] + ", " + w[2], () -> x.mend(w[0], w[1], w[2]));
            DUE.is("20: refused, no mend", x.count(4), 0);
        }
        DUE.is("20: the first number, the least", x.mend(0, -999_999, 0), 0);
        DUE.is("20: the last number, the greatest", x.mend(9, 999_999, 999), 1);
    }

    /** A deck and a law by which it is calm if a number of it is what is told, and else not. */
    private static GallopRoads calmIf(int which, int is) {
        GallopRoads x = DeckTest.bare(LAWS_OF_NUMBERS[which].replace("IS", Integer.toString(is)));
        x.deck(2);
        boolean tenths = which >= 1 && which <= 3 || which >= 7;
        x.set(0, which == 4 || tenths ? 10 : 1);
        x.set(4, tenths ? 99 : 0);
        x.set(7, 9999);
        x.set(8, which == 7 ? 10 : 0);
        x.set(2, which == 9 ? 10 : 0);
        return x;
    }

    private static void mendsTo(int which, int start, int more, int end, boolean itIsSo) {
        GallopRoads x = calmIf(which, end);
        x.set(which, start);
        x.mend(which, more, 3);
        DUE.is("22: number " + which + ", " + start + " and " + more + " is " + end, x.mended(0, 0), itIsSo ? 1 : -1);
        DUE.is("23: the only one", x.week(0, 0), 0);
        DUE.is("34: the deck stays", x.count(20 + which), start);
    }

    private static void mendsThenTo(int which, int start, int first, int second, int end, boolean itIsSo) {
        GallopRoads x = calmIf(which, end);
        x.set(which, start);
        x.mend(which, first, 3);
        x.mend(which, second, 3);
        DUE.is("22: number " + which + ", " + start + ", " + first + ", " + second + " is " + end, x.mended(0, 0), itIsSo ? 3 : -1);
    }

    /** "becomes so much more (or less; within its bounds)": one mend up to, onto and beyond each end. */
    private static void boundsOfNumbers() {
        for (int which = 0; which <= 8; which++) {
            int most = MOST[which];
            int least = LEAST[which];
            int start = which == 7 ? 300 : 50;
            for (int beyond : new int[] {0, 1, 2, 900_000}) {
                mendsTo(which, start, most - start + beyond, most, true);
                mendsTo(which, start, most - start + beyond, most - 1, false);
                if (which != 7) {
                    mendsTo(which, start, least - start - beyond, least, true);
                    mendsTo(which, start, least - start - beyond, least + 1, false);
                }
            }
            mendsTo(which, start, most - start - 1, most - 1, true);
            mendsTo(which, start, most - start - 1, most, false);
            mendsTo(which, start, 13 - start, 13, true);
            mendsTo(which, start, 13 - start, 12, false);
        }
    }

    /** The same, seen by a second mend: it goes on from the bound. */
    private static void boundsBetweenMends() {
        for (int which = 0; which <= 8; which++) {
            int most = MOST[which];
            int least = LEAST[which];
            int start = which == 7 ? 300 : 50;
            for (int beyond : new int[] {0, 1, 900_000}) {
                mendsThenTo(which, start, most - start + beyond, 13 - most, 13, true);
                mendsThenTo(which, start, most - start + beyond, 13 - most, 12, false);
                mendsThenTo(which, start, least - start - beyond, 13 - least, 13, true);
                mendsThenTo(which, start, least - start - beyond, 13 - least, 12, false);
            }
        }
        // calm if its link tears by 140: STRONG 139 at most, and not 0
        mendsThenTo(9, 200, 999_999, 139 - 999_999, 0, true);
        mendsThenTo(9, 200, 999_999, 140 - 999_999, 0, false);
        mendsThenTo(9, 200, 999_799, 139 - 999_999, 0, true);
        mendsThenTo(9, 200, -999_999, 139, 0, true);
        mendsThenTo(9, 200, -200, 139, 0, true);
        mendsThenTo(9, 200, -201, 140, 0, false);
        mendsTo(9, 200, -60, 0, false);
        mendsTo(9, 200, -61, 0, true);
        mendsTo(9, 200, -199, 0, true);
        mendsTo(9, 200, -200, 0, false);
        mendsTo(9, 200, -999_999, 0, false);
    }

    /** "no SHAPE of both kinds and HALVES 1 to 3 GROWS". */
    private static void calmByHalves1To3() {
        // of 8 pieces: 4 is down with two halves alone, 7 is so too and with four, 3 with three alone, 2 with four and three
        String[] places = {"height", "turn"};
        String[] moves = {"lift 0-1", "twist 0-1"};
        for (int kind = 0; kind < 2; kind++) {
            String down = moves[kind] + " if tick=0 and " + places[kind] + "=0-100 and piece=";
            GallopRoads x = DeckTest.bare(down + "4;", down + "3;", down + "0;");
            x.deck(8);
            DUE.is("21: two halves", x.calm(0, 0), false);
            DUE.is("21: three halves", x.calm(1, 0), false);
            DUE.is("21: never down", x.calm(2, 0), true);
            // of 4 pieces: 1 is down with four halves alone
            GallopRoads y = DeckTest.bare(down + "1;", down + "2;");
            DUE.is("21: four halves are no matter", y.calm(0, 0), true);
            DUE.is("12: though that grows", y.grows(0, 0, kind, 4), true);
            DUE.is("21: two and three are", y.calm(1, 0), false);
            GallopRoads one = DeckTest.bare(moves[kind].replace("0-1", "1") + " if tick=0 and " + places[kind] + "=100 and piece=3;");
            one.deck(6);
            // of 6 pieces: 3 is up with one half, down with two and three
            DUE.is("21: one half", one.calm(0, 0), false);
            DUE.is("12: one alone", one.grows(0, 0, kind, 2) || one.grows(0, 0, kind, 3), false);
        }
    }

    /** "of all sets of MENDS (made in order) by which it is CALM", none among them; "NONE: by none". */
    private static void mendedOfAllSets() {
        for (int bits = 0; bits < 32; bits++) {
            // five powers of 2, of which a law wants a sum
            GallopRoads x = DeckTest.bare(UP + " if not holes=" + bits + ";");
            for (int k = 0; k < 5; k++) {
                x.mend(6, 1 << k, 999 - k);
            }
            DUE.is("22: bits " + bits, x.mended(0, 0), bits);
            DUE.is("34: the deck stays", x.count(26), 0);
        }
        GallopRoads x = DeckTest.bare(UP + " if not holes=32;");
        for (int k = 0; k < 5; k++) {
            x.mend(6, 1 << k, 0);
        }
        DUE.is("22: by none", x.mended(0, 0), -1);
        GallopRoads y = DeckTest.bare(UP + " if not holes=9;");
        y.mend(6, 99, 1);
        y.mend(6, -90, 1);
        DUE.is("22: the first ahead of the second", y.mended(0, 0), 3);
        GallopRoads z = DeckTest.bare(UP + " if not holes=9;");
        z.mend(6, -90, 1);
        z.mend(6, 99, 1);
        DUE.is("22: not the second ahead of the first", z.mended(0, 0), -1);
    }

    /** "the one of the least COST; of these the first by bits". */
    private static void leastCostThenFirstByBits() {
        int[][] costs = {{5, 5, 5, 5, 5}, {6, 5, 5, 5, 5}, {6, 6, 5, 6, 5}, {9, 8, 7, 6, 5}, {0, 0, 0, 0, 0}, {999, 999, 999, 999, 998}};
        int[] due = {1, 2, 4, 16, 1, 16};
        for (int k = 0; k < costs.length; k++) {
            GallopRoads x = DeckTest.bare(UP + " if holes=0;");
            for (int cost : costs[k]) {
                x.mend(6, 1, cost);
            }
            DUE.is("22: costs " + k, x.mended(0, 0), due[k]);
        }
        GallopRoads x = DeckTest.bare(UP + " if holes<3;");
        x.mend(6, 3, 10);
        x.mend(6, 1, 5);
        x.mend(6, 2, 5);
        DUE.is("22: as dear, fewer bits first", x.mended(0, 0), 1);
        GallopRoads y = DeckTest.bare(UP + " if holes<3;");
        y.mend(6, 1, 5);
        y.mend(6, 2, 5);
        y.mend(6, 3, 10);
        DUE.is("22: as dear, the two are first by bits", y.mended(0, 0), 3);
        GallopRoads z = DeckTest.bare("");
        z.mend(6, 1, 0);
        DUE.is("22: as dear as none: none", z.mended(0, 0), 0);
    }

    /** "at a COST (0 to 999)". */
    private static void costsFrom0To999() {
        GallopRoads x = DeckTest.bare(UP + " if holes<4;");
        x.mend(6, 4, 999);
        for (int k = 0; k < 4; k++) {
            x.mend(6, 1, k == 3 ? 249 : 250);
        }
        DUE.is("22: 999 for one, 999 for four", x.mended(0, 0), 1);
        GallopRoads y = DeckTest.bare(UP + " if holes<4;");
        y.mend(6, 4, 999);
        for (int k = 0; k < 4; k++) {
            y.mend(6, 1, k == 3 ? 248 : 250);
        }
        DUE.is("22: 999 for one, 998 for four", y.mended(0, 0), 30);
        GallopRoads z = DeckTest.bare(UP + " if holes<5;");
        for (int k = 0; k < 5; k++) {
            z.mend(6, 1, 999);
        }
        DUE.is("22: all for 4995", z.mended(0, 0), 31);
    }

    /** "the greatest WIND (0 to 12) up to which it is CALM". */
    private static void weekOfWinds0To12() {
        for (int wind = 0; wind <= 15; wind++) {
            // the second is calm up to one more, and so better as long as that is 12 at most
            GallopRoads x = DeckTest.bare(UP + " if wind>holes-1;");
            x.mend(6, wind, 0);
            x.mend(6, wind + 1, 0);
            x.mend(6, wind, 0);
            DUE.is("23: calm up to " + (wind - 1) + ", and one more", x.week(0, 0), wind <= 12 ? 1 : 0);
        }
    }

    /** "(at all from 0 on; -1 if not at 0)". */
    private static void weekFromWind0On() {
        String law = UP + " if wind=0 and side<50 or wind=2 and holes<50;";
        GallopRoads x = DeckTest.bare(law);
        x.mend(6, 50, 0);
        x.mend(5, 50, 0);
        DUE.is("23: all but 0 is -1, all but 2 is 1", x.week(0, 0), 1);
        DUE.is("23: the other then", x.week(0, 1), 0);
        GallopRoads y = DeckTest.bare(UP + " if holes<3 or wind>0 and holes<5;");
        y.mend(6, 1, 0);
        y.mend(6, 2, 0);
        y.mend(6, 3, 0);
        y.mend(6, 5, 0);
        // -1, -1, 0, 12 on day 0; then 12 by each
        DUE.is("23: 12 ahead of 0 ahead of -1", y.week(0, 0), 3);
        GallopRoads z = DeckTest.bare(UP + " if holes<3 or wind>0 and holes<5;");
        z.mend(6, 1, 0);
        z.mend(6, 2, 0);
        z.mend(6, 3, 0);
        // -1, -1, 0: the third; then 4 (0) and 5 (12): the second; then the first
        DUE.is("23: 0 ahead of -1", z.week(0, 0), 2);
        DUE.is("23: 12 ahead of 0", z.week(0, 1), 1);
        DUE.is("23: the last", z.week(0, 2), 0);
        DUE.is("23: none is left", z.week(0, 3), -1);
        GallopRoads w = DeckTest.bare(UP + ";");
        w.mend(6, 1, 0);
        w.mend(6, 2, 0);
        DUE.is("23: by none calm at 0: the first", w.week(0, 0), 0);
        DUE.is("23: and the second", w.week(0, 1), 1);
    }

    /** "one MEND a day, those that are left", "of these the first; so on to the last". */
    private static void weekOfThoseThatAreLeft() {
        for (int many = 1; many <= 5; many++) {
            GallopRoads x = DeckTest.bare("", UP + " if wind>holes-1;");
            for (int k = 0; k < many; k++) {
                x.mend(6, k + 1, 0);
            }
            for (int day = 0; day < many; day++) {
                DUE.is("23: all alike, day " + day + " of " + many, x.week(0, day), day);
                // of five: 5, 4 and 3 are calm up to 11; 1 and 2 are both as good as 12 then
                int due = many < 5 || day < 3 ? many - 1 - day : day - 3;
                DUE.is("23: the greatest that is left, day " + day + " of " + many, x.week(1, day), due);
            }
            DUE.is("23: none is left of " + many, x.week(0, many), -1);
            DUE.is("23: none of them either", x.week(1, many), -1);
        }
    }

    /** MENDS of the days so far are made, each within its bounds, in the order of the days. */
    private static void weekMendsAreMade() {
        GallopRoads x = DeckTest.bare(UP + " if wind>holes-90;");
        x.set(6, 90);
        x.mend(6, 50, 0);
        x.mend(6, -4, 0);
        x.mend(6, -3, 0);
        // behind day 0 it is 99, not 140: less 4 is 95, less 3 is 96
        DUE.is("23: day 0", x.week(0, 0), 0);
        DUE.is("23: day 1", x.week(0, 1), 2);
        DUE.is("23: day 2", x.week(0, 2), 1);
        DUE.is("34: the deck has none of them", x.count(26), 90);
        DUE.is("34: all mends stay", x.count(4), 3);
        DUE.is("22: and count anew", x.mended(0, 9), 1);
    }

    /** "The MEND of a day (from 0 on) of the WEEK; NONE: there is none left. IllegalArgumentException: it is below 0." */
    private static void daysOfTheWeek() {
        GallopRoads x = DeckTest.bare("");
        x.mend(6, 1, 0);
        for (int day : new int[] {1, 2, 5, 7, 100, Integer.MAX_VALUE}) {
            DUE.is("23: day " + day, x.week(0, day), -1);
        }
        for (int day : new int[] {-1, -2, Integer.MIN_VALUE}) {
            DUE.illegal("23: day " + day, () -> x.week(0, day));
        }
        DUE.is("23: day 0", x.week(0, 0), 0);
    }

    /** "pushes are known to s hundredths (0 to 50)". */
    private static void spansFrom0To50() {
        for (int kind = 0; kind < 2; kind++) {
            String move = kind == 0 ? "lift" : "twist";
            // tells 2 by wind 10, 3 by 20, 4 by 30, and goes on from 3 told on alone
            GallopRoads x = DeckTest.bare(move + " wind/10+1 if tick=0;");
            x.set(0, 3);
            DUE.is("24: as told 3", x.line(0, kind, 1), 20);
            DUE.is("24: s 0", x.span(0, kind, 1, 0, false), 20);
            DUE.is("24: s 0, most", x.span(0, kind, 1, 0, true), 20);
            DUE.is("24: 149 hundredths of 2 are 2", x.span(0, kind, 1, 49, false), 20);
            DUE.is("24: 150 hundredths of 2 are 3", x.span(0, kind, 1, 50, false), 10);
            // 51 hundredths of 6 are 3, of 5 are 2; half of 6 is 3
            DUE.is("24: 51 hundredths of 6", x.span(0, kind, 1, 49, true), 50);
            DUE.is("24: half of 6", x.span(0, kind, 1, 50, true), 50);
            // 99 hundredths of 3 are 2, of 4 are 3
            DUE.is("24: 99 hundredths of 4", x.span(0, kind, 1, 1, true), 30);
            for (int s : new int[] {-1, 51, 100, Integer.MIN_VALUE, Integer.MAX_VALUE}) {
                DUE.illegal("24: s " + s, () -> x.span(0, 0, 1, s, true));
            }
        }
    }

    /** "by 100 (cut)": of pushes with a minus, too. */
    private static void spanIsCut() {
        for (int kind = 0; kind < 2; kind++) {
            // with two halves one piece is at -100, and goes on down by -3 told on, as MASS is 3
            GallopRoads x = DeckTest.bare((kind == 0 ? "lift" : "twist") + " 0-wind/10-1 if tick=0;");
            x.set(0, 3);
            DUE.is("24: as told -3", x.line(0, kind, 2), 20);
            DUE.is("24: 99 hundredths of -3 are -2, of -4 are -3", x.span(0, kind, 2, 1, true), 30);
            DUE.is("24: 149 hundredths of -2 are -2", x.span(0, kind, 2, 49, false), 20);
            DUE.is("24: 150 hundredths of -2 are -3", x.span(0, kind, 2, 50, false), 10);
        }
    }

    /** TOLD is bounded, and "times 100 less s (or 100 and s), by 100" then: 100,000 may become 150,000. */
    private static void spanOfTheGreatestPushes() {
        for (int kind = 0; kind < 2; kind++) {
            String move = kind == 0 ? "lift " : "twist ";
            String place = kind == 0 ? "height" : "turn";
            String once = move + "9999*20 if tick=0;" + move + "0-9999*20 if tick=1;" + move + "1 if tick=40 and " + place;
            GallopRoads x = DeckTest.bare(once + ">1001*100;", once + ">1501*100-1;", once + ">1501*100;", once + "<1001*100;");
            DUE.is("24: 100,000 as told", x.line(0, kind, 1), -1);
            DUE.is("24: above 100,000 by more", x.span(0, kind, 1, 50, false), 0);
            DUE.is("24: 150,000 by half more", x.span(1, kind, 1, 50, false), 0);
            DUE.is("24: 149,000", x.span(1, kind, 1, 49, false), -1);
            DUE.is("24: no more than 150,000", x.span(2, kind, 1, 50, false), -1);
            DUE.is("24: less by less, but 1 is nothing then", x.span(3, kind, 1, 50, false), -1);
        }
    }

    /** "the least and the greatest of LINES .. (of those that there are)"; "NONE: there is no LINE". */
    private static void spanOfThoseThatThereAre() {
        GallopRoads x = DeckTest.bare("lift 2 if tick=0 and wind=60;", "lift 1 if tick=0 and wind=60;", "lift 2 if tick=0 and wind=61;",
            "lift 1 if tick=0 and wind=0;");
        x.set(0, 2);
        DUE.is("24: by less there is none; as told, most", x.span(0, 0, 1, 1, true), 60);
        DUE.is("24: by less there is none; as told, least", x.span(0, 0, 1, 1, false), 60);
        DUE.is("24: by none of them", x.span(1, 0, 1, 50, false), -1);
        DUE.is("24: by none of them, most", x.span(1, 0, 1, 50, true), -1);
        DUE.is("24: none up to 60", x.span(2, 0, 1, 50, true), -1);
        x.set(0, 3);
        DUE.is("24: by more alone", x.span(0, 0, 1, 50, false), 60);
        DUE.is("24: by more alone, most", x.span(0, 0, 1, 50, true), 60);
        DUE.is("24: by more, but not by so much", x.span(0, 0, 1, 49, true), -1);
        x.set(0, 1);
        DUE.is("24: wind 0", x.span(3, 0, 1, 50, true), 0);
        DUE.is("24: wind 0, least", x.span(3, 0, 1, 50, false), 0);
    }
}
