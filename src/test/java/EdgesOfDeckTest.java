/** A deck and its ticks at their bounds: each method holds one sentence of the document. */
public final class EdgesOfDeckTest {
    private static final Due DUE = new Due();
    private static final int[] LEAST = {1, 0, 0, 0, 0, 0, 0, 0, 0, 0};
    private static final int[] MOST = {99, 99, 99, 99, 99, 99, 99, 9999, 99, 999999};

    public static void main(String[] args) {
        piecesFrom2To8();
        numbersWithinBounds();
        beyondBothEndsAllIs0();
        overATornLink();
        aTenthIsCutFirst();
        thenTheSumByMass();
        lossIsCutByItself();
        noFartherThanAMillion();
        noFasterThanAMillion();
        speedsAreBoundedAheadOfPlaces();
        allByWhatWasAhead();
        namesAtTheirEnds();
        namesOfThePieceAheadOfTheTick();
        slipsAboveGrip();
        slipsBelowTheSameWithAMinus();
        whatSlippedStaysSo();
        tearsFartherApartThanStrong();
        thenComesBehindTheTick();
        shapesOfAllPieces();
        shapesUpTo9999();
        goesUpTo100Ticks();
        staysOfThePiecesThatThereAre();
        piecesAndWhats();
        theFiveHundredTwelfthCall();
        DUE.end();
    }

    private static void row(String name, GallopRoads x, int what, int... due) {
        DUE.is(name + ": pieces", x.count(0), due.length);
        for (int i = 0; i < due.length; i++) {
            DUE.is(name + ", " + what + " of piece " + i, x.piece(i, what), due[i]);
        }
    }

    /** "PIECES 0 to n - 1 (n 2 to 8; 4 at first)". */
    private static void piecesFrom2To8() {
        GallopRoads x = new GallopRoads();
        DUE.is("5: four at first", x.count(0), 4);
        int had = 4;
        for (int n = 2; n <= 8; n++) {
            int last = n - 1;
            DUE.is("5: deck(" + n + ")", x.deck(n), had);
            DUE.is("5: its last piece holds", x.piece(last, 4), 2);
            DUE.missing("5: no piece " + n, () -> x.piece(last + 1, 4));
            had = n;
        }
        for (int n : new int[] {1, 9, 0, -1, -2, 10, Integer.MIN_VALUE, Integer.MAX_VALUE}) {
            DUE.illegal("5: deck(" + n + ")", () -> x.deck(n));
            DUE.is("5: it did nothing", x.count(0), 8);
        }
        DUE.is("5: back to 2", x.deck(2), 8);
        DUE.is("5: as many as it had", x.deck(2), 2);
    }

    /** "numbers: 0 MASS (1 to 99; ..", promise 6: "IllegalArgumentException: which (0 to 9), or v." */
    private static void numbersWithinBounds() {
        for (int which = 0; which < 10; which++) {
            GallopRoads x = new GallopRoads();
            int w = which;
            int first = x.count(20 + w);
            for (int v : new int[] {LEAST[w] - 1, MOST[w] + 1, Integer.MIN_VALUE, Integer.MAX_VALUE, -1}) {
                DUE.illegal("6: set(" + w + ", " + v + ")", () -> x.set(w, v));
                DUE.is("6: it stays", x.count(20 + w), first);
            }
            DUE.is("6: the least of " + w, x.set(w, LEAST[w]), first);
            DUE.is("6: one more", x.set(w, LEAST[w] + 1), LEAST[w]);
            DUE.is("6: the greatest of " + w, x.set(w, MOST[w]), LEAST[w] + 1);
            DUE.is("6: one less", x.set(w, MOST[w] - 1), MOST[w]);
            DUE.is("34: it is so now", x.count(20 + w), MOST[w] - 1);
            GallopRoads fresh = new GallopRoads();
            for (int other = 0; other < 10; other++) {
                DUE.is("6: the others stay", x.count(20 + other) == fresh.count(20 + other), other != w);
            }
        }
        GallopRoads x = new GallopRoads();
        for (int which : new int[] {-1, 10, 11, 20, Integer.MIN_VALUE, Integer.MAX_VALUE}) {
            for (int v = 0; v <= 5; v++) {
                int any = v;
                DUE.illegal("6: set(" + which + ", " + v + ")", () -> x.set(which, any));
            }
        }
        DUE.is("6: NONE and the least", x.count(19), -1);
        DUE.is("6: NONE behind the greatest", x.count(30), -1);
    }

    /** "beyond both ends all is 0". */
    private static void beyondBothEndsAllIs0() {
        for (int n = 2; n <= 8; n++) {
            GallopRoads x = DeckTest.bare("");
            x.deck(n);
            x.set(1, 10);
            x.set(2, 10);
            x.shape(0, 1, 100);
            x.go(0, 0, 1);
            for (int i = 0; i < n; i++) {
                DUE.is("9: up of piece " + i + " of " + n, x.piece(i, 2), i == 0 || i == n - 1 ? -100 : 0);
            }
            x.shape(1, 1, 100);
            x.go(0, 0, 1);
            for (int i = 0; i < n; i++) {
                DUE.is("9: spin of piece " + i + " of " + n, x.piece(i, 3), i == 0 || i == n - 1 ? -100 : 0);
            }
        }
    }

    /** "over a TORN LINK a neighbour is as high (as turned) as the PIECE itself". */
    private static void overATornLink() {
        GallopRoads x = DeckTest.bare("");
        x.deck(2);
        x.set(9, 199);
        x.shape(1, 2, 100);
        x.go(0, 0, 1);
        DUE.is("10: 200 apart", x.piece(0, 5), 1);
        x.set(1, 10);
        x.set(2, 10);
        for (int kind = 0; kind < 2; kind++) {
            x.shape(kind, 2, 50);
            x.go(0, 0, 1);
            // 10*(50-100) = -500: as its neighbour were as high, and the tower at 0
            row("9: over a torn link", x, 2 + kind, -50, 50);
        }
        x.deck(2);
        x.set(9, 0);
        x.shape(0, 2, 50);
        x.go(0, 0, 1);
        // 10*(-50-100) = -1500
        row("9: over a link", x, 2, -150, 150);
    }

    /** "A tenth is cut first". */
    private static void aTenthIsCutFirst() {
        GallopRoads x = DeckTest.bare("", "lift 3*sign(height);twist 3*sign(turn);");
        x.deck(2);
        x.set(1, 1);
        x.set(2, 1);
        int[] sizes = {9, 10, 19, 20};
        for (int kind = 0; kind < 2; kind++) {
            for (int k = 0; k < sizes.length; k++) {
                // all alike: PULL is less the size
                x.shape(kind, 1, sizes[k]);
                x.go(0, 0, 1);
                row("9: a tenth of -" + sizes[k], x, 2 + kind, -(sizes[k] / 10), -(sizes[k] / 10));
            }
            // against each other: PULL is three times the size, with a minus, and without
            x.shape(kind, 2, 3);
            x.go(0, 0, 1);
            row("9: a tenth of 9", x, 2 + kind, 0, 0);
            x.shape(kind, 2, 4);
            x.go(0, 0, 1);
            row("9: a tenth of 12", x, 2 + kind, -1, 1);
            x.set(0, 2);
            x.shape(kind, 2, 6);
            x.go(1, 0, 1);
            // a tenth of 18 is 1, and 3 against it is 2, by 2 is 1; uncut it would be 1.2, by 2: nothing
            row("9: cut ahead of the push", x, 2 + kind, 1, -1);
            x.set(0, 1);
        }
    }

    /** "then the sum by MASS" (1 to 99). */
    private static void thenTheSumByMass() {
        GallopRoads x = DeckTest.bare("lift wind;twist 0-wind;");
        int[][] table = {{1, 99, 99}, {2, 1, 0}, {2, 2, 1}, {2, 3, 1}, {4, 3, 0}, {4, 4, 1}, {4, 7, 1}, {4, 8, 2}, {99, 98, 0}, {99, 99, 1}};
        for (int[] t : table) {
            x.deck(2);
            x.set(0, t[0]);
            x.go(0, t[1], 1);
            row("9: " + t[1] + " by " + t[0], x, 2, t[2], t[2]);
            row("9: -" + t[1] + " by " + t[0], x, 3, -t[2], -t[2]);
        }
    }

    /** "less LOSS hundredths of up", "LOSS cut by itself". */
    private static void lossIsCutByItself() {
        GallopRoads x = DeckTest.bare("lift wind;twist 0-wind;", "lift 1;twist 0-1;");
        int[][] table = {{2, 49, 49}, {2, 50, 49}, {2, 99, 98}, {50, 1, 1}, {50, 2, 1}, {50, 3, 2}, {99, 1, 1}, {99, 2, 1}, {99, 99, 1}, {0, 99, 99}};
        for (int[] t : table) {
            x.deck(2);
            x.set(4, t[0]);
            x.go(0, t[1], 1);
            row("9: nothing is lost of 0", x, 2, t[1], t[1]);
            x.go(0, 0, 1);
            row("9: " + t[0] + " hundredths of " + t[1], x, 2, t[2], t[2]);
            row("9: " + t[0] + " hundredths of -" + t[1], x, 3, -t[2], -t[2]);
        }
        x.deck(2);
        x.set(4, 50);
        x.go(0, 1, 1);
        x.set(0, 2);
        x.go(1, 0, 1);
        // 1 by 2 is nothing, and half of 1 is nothing: each by itself
        row("9: neither push nor loss", x, 2, 1, 1);
        row("9: nor with a minus", x, 3, -1, -1);
    }

    /** "All four are -1,000,000 at least, 1,000,000 at most": heights and turns. */
    private static void noFartherThanAMillion() {
        String start = "lift 5000*2 if tick=0;twist 0-5000*2 if tick=0;";
        GallopRoads x = DeckTest.bare(start, "lift 0-5000*2+wind;twist 5000*2-wind;");
        for (int wind = 0; wind < 4; wind++) {
            x.deck(2);
            x.go(0, 0, 99);
            row("9: far", x, 0, 990_000, 990_000);
            x.go(0, 0, 1);
            row("9: a million", x, 0, 1_000_000, 1_000_000);
            row("9: less a million", x, 1, -1_000_000, -1_000_000);
            x.go(1, wind, 1);
            row("9: and " + wind, x, 0, 1_000_000, 1_000_000);
            row("9: less " + wind, x, 1, -1_000_000, -1_000_000);
            row("9: the speed is " + wind, x, 2, wind, wind);
            x.go(1, 0, 1);
            row("9: back", x, 0, 990_000 + wind, 990_000 + wind);
            row("9: back from below", x, 1, -990_000 - wind, -990_000 - wind);
        }
        GallopRoads y = DeckTest.bare(start, "lift 0-1;twist 1;", "lift wind-up;twist 0-wind-spin;");
        y.deck(2);
        y.go(0, 0, 99);
        y.go(1, 0, 1);
        row("9: one less than a million", y, 0, 999_999, 999_999);
        row("9: one more than less a million", y, 1, -999_999, -999_999);
        y.go(2, 0, 1);
        row("9: at rest it stays", y, 0, 999_999, 999_999);
        y.go(2, 2, 1);
        row("9: two more are one", y, 0, 1_000_000, 1_000_000);
        row("9: two less are one", y, 1, -1_000_000, -1_000_000);
    }

    /** The same of up and spin. */
    private static void noFasterThanAMillion() {
        GallopRoads x = DeckTest.bare("lift 5000*20;twist 0-5000*20;", "lift wind;twist 0-wind;", "lift 0-1;twist 1;");
        x.deck(2);
        x.go(0, 0, 9);
        row("9: fast", x, 2, 900_000, 900_000);
        x.go(0, 0, 1);
        row("9: a million", x, 2, 1_000_000, 1_000_000);
        row("9: less a million", x, 3, -1_000_000, -1_000_000);
        x.go(2, 0, 1);
        row("9: one less", x, 2, 999_999, 999_999);
        row("9: one more", x, 3, -999_999, -999_999);
        x.go(1, 2, 1);
        row("9: two more are one", x, 2, 1_000_000, 1_000_000);
        row("9: two less are one", x, 3, -1_000_000, -1_000_000);
        x.go(1, 1, 1);
        row("9: no faster", x, 2, 1_000_000, 1_000_000);
        row("9: nor so", x, 3, -1_000_000, -1_000_000);
        x.go(2, 0, 1);
        row("9: one less again", x, 2, 999_999, 999_999);
        row("9: one more again", x, 3, -999_999, -999_999);
    }

    /** "up and spin ahead of height and turn". */
    private static void speedsAreBoundedAheadOfPlaces() {
        GallopRoads x = DeckTest.bare("lift 5000*20;twist 5000*20;");
        x.deck(2);
        x.go(0, 0, 20);
        for (int which : new int[] {1, 2, 3, 8}) {
            x.set(which, 99);
        }
        x.stay(1, false);
        x.set(7, 9999);
        x.go(0, 0, 1);
        // 1000000 + (99*-1000000 - 99000000)/10 + 100000: far below a million with a minus
        row("9: up", x, 2, -1_000_000, -1_000_000);
        row("9: height", x, 0, 0, 0);
        row("9: spin", x, 3, -1_000_000, -1_000_000);
        row("9: turn", x, 1, 0, 0);
    }

    /** "for each PIECE, all by what was ahead of it": no piece sees another of the same tick. */
    private static void allByWhatWasAhead() {
        GallopRoads x = DeckTest.bare("lift 100 if tick=0 and piece=0;twist 100 if tick=0 and piece=0;");
        x.deck(3);
        x.set(1, 10);
        x.set(2, 10);
        x.go(0, 0, 1);
        row("9: piece 0 alone", x, 0, 100, 0, 0);
        row("9: its turn alone", x, 1, 100, 0, 0);
        x.go(0, 0, 1);
        // piece 0: 10*(0-200) = -2000; piece 1: 10*100 = 1000; piece 2: nothing yet
        row("9: its neighbour then", x, 2, -100, 100, 0);
        row("9: its neighbour turns then", x, 3, -100, 100, 0);
        x.go(0, 0, 1);
        // heights were 0, 100, 0: piece 1: 10*-200; the others 10*100
        row("9: and the next", x, 2, 0, -100, 100);
        row("9: and the next turns", x, 3, 0, -100, 100);
    }

    /** Names: WIND 0 to 99, "tick: how many TICKS there were", PIECES 0 to n - 1, SIDE and HOLES 0 to 99. */
    private static void namesAtTheirEnds() {
        GallopRoads x = DeckTest.bare("lift wind*100+tick;twist side*1000+holes*10+piece;");
        x.deck(8);
        DUE.is("11: wind 0, no ticks", x.push(0, 0, 0, false), 0);
        DUE.is("11: wind 99", x.push(0, 99, 0, false), 9900);
        x.set(5, 99);
        DUE.is("11: side 99", x.push(0, 0, 0, true), 99_000);
        DUE.is("11: piece 7", x.push(0, 0, 7, true), 99_007);
        x.set(5, 0);
        x.set(6, 99);
        DUE.is("11: holes 99", x.push(0, 0, 0, true), 990);
        x.go(0, 1, 1);
        DUE.is("9: in the first tick there were none", x.piece(0, 2), 100);
        x.go(0, 1, 1);
        DUE.is("9: in the second one", x.piece(0, 2), 201);
        DUE.is("11: two were", x.push(0, 0, 0, false), 2);
        x.go(0, 0, 100);
        DUE.is("11: more than 100", x.push(0, 0, 0, false), 102);
        x.shape(0, 1, 1);
        DUE.is("8: so do TICKS", x.push(0, 0, 0, false), 102);
        x.deck(8);
        DUE.is("5: no TICKS", x.push(0, 0, 0, false), 0);
    }

    /** "Names: those of the PIECE ahead of the TICK". */
    private static void namesOfThePieceAheadOfTheTick() {
        GallopRoads x = DeckTest.bare("lift 5;twist up*10+height;", "twist 5;lift spin*10+turn;");
        for (int law = 0; law < 2; law++) {
            x.deck(2);
            x.go(law, 0, 1);
            row("9: what pushes", x, 2 + law, 5, 5);
            row("9: it was at rest ahead of the tick", x, 3 - law, 0, 0);
            x.go(law, 0, 1);
            row("9: it was 5 and at 5", x, 3 - law, 55, 55);
            x.go(law, 0, 1);
            row("9: it was 10 and at 15", x, 3 - law, 170, 170);
        }
        GallopRoads y = DeckTest.bare("lift 5 if piece=0;twist height if piece=1;lift 7 if piece=1 and height=5;");
        y.deck(2);
        y.go(0, 0, 9);
        row("9: no names of other pieces", y, 1, 0, 0);
        row("9: nor so", y, 2, 45, 0);
    }

    private static void slipped(String name, int grip, int size, int twist, int slips) {
        GallopRoads x = DeckTest.bare("twist " + (twist < 0 ? "0-1" : twist > 0 ? "1" : "0") + ";");
        x.deck(2);
        x.set(7, grip);
        x.shape(1, 2, size);
        x.go(0, 0, 1);
        DUE.is(name, x.count(9), slips);
    }

    /** "each STAY that holds SLIPS, if its PIECE's turn is above GRIP" (0 to 9,999). */
    private static void slipsAboveGrip() {
        // turns size and less size, each with the twist
        slipped("9: GRIP 300, 300 and -300", 300, 300, 0, 0);
        slipped("9: GRIP 300, 301 and -299", 300, 300, 1, 1);
        slipped("9: GRIP 300, 301 and -301", 300, 301, 0, 2);
        slipped("9: GRIP 9999, 9999 and -9999", 9999, 9999, 0, 0);
        slipped("9: GRIP 9999, 10000 and -9998", 9999, 9999, 1, 1);
        slipped("9: GRIP 0, 1 and -1", 0, 1, 0, 2);
        slipped("9: GRIP 0, 2 and 0", 0, 1, 1, 1);
        GallopRoads x = DeckTest.bare("");
        x.set(7, 0);
        x.go(0, 0, 1);
        DUE.is("9: GRIP 0, at rest", x.count(9), 0);
        x.shape(0, 1, 9999);
        x.go(0, 0, 1);
        DUE.is("9: heights are no matter", x.count(9), 0);
    }

    /** "or below the same with a minus". */
    private static void slipsBelowTheSameWithAMinus() {
        slipped("9: GRIP 300, 299 and -301", 300, 300, -1, 1);
        slipped("9: GRIP 9999, 9998 and -10000", 9999, 9999, -1, 1);
        slipped("9: GRIP 0, 0 and -2", 0, 1, -1, 1);
        GallopRoads x = DeckTest.bare("", "twist 0-1;");
        x.deck(2);
        x.shape(1, 2, 300);
        x.go(1, 0, 1);
        row("9: the second", x, 4, 2, 1);
    }

    /** "a STAY or none .., which may have SLIPPED": back within GRIP it holds no more; none can't slip. */
    private static void whatSlippedStaysSo() {
        GallopRoads x = DeckTest.bare("");
        x.stay(1, false);
        x.shape(1, 1, 301);
        x.go(0, 0, 1);
        row("9: who has none", x, 4, 1, 0, 1, 1);
        x.shape(1, 1, 300);
        x.go(0, 0, 5);
        row("9: it stays so", x, 4, 1, 0, 1, 1);
        DUE.is("7: one that SLIPPED stays so", x.stay(0, true), 1);
        DUE.is("7: it is so still", x.stay(0, true), 1);
        DUE.is("7: one that had none gets one that holds", x.stay(1, true), 0);
        DUE.is("7: it holds", x.stay(1, true), 2);
        DUE.is("7: SLIPPED, and none then", x.stay(2, false), 1);
        DUE.is("7: none", x.stay(2, false), 0);
        row("7: all of it", x, 4, 1, 2, 0, 1);
        DUE.is("34: of those that have one", x.count(9), 2);
    }

    /** "if STRONG is not 0 and both turns are farther apart than STRONG". */
    private static void tearsFartherApartThanStrong() {
        int[][] table = {{0, 9999, 0}, {1, 1, 1}, {2, 1, 0}, {3, 1, 0}, {199, 100, 1}, {200, 100, 0}, {201, 100, 0},
            {19_997, 9999, 1}, {19_998, 9999, 0}, {999_999, 9999, 0}};
        for (int[] t : table) {
            for (int halves = 2; halves <= 4; halves += 2) {
                GallopRoads x = DeckTest.bare("");
                x.set(9, t[0]);
                x.shape(1, halves, t[1]);
                x.go(0, 0, 1);
                // two halves turn about in the middle, four at each link
                row("9: STRONG " + t[0] + ", " + 2 * t[1] + " apart", x, 5, halves == 4 ? t[2] : 0, t[2], halves == 4 ? t[2] : 0, 0);
                DUE.is("34: LINKS that are TORN", x.count(10), halves == 4 ? 3 * t[2] : t[2]);
            }
        }
        String apart = "twist 5000 if tick=0 and piece=0;twist 0-5000 if tick=0 and piece=1;";
        GallopRoads x = DeckTest.bare(apart, apart + "twist 1 if tick=99 and piece=1;");
        x.deck(2);
        x.set(9, 999_999);
        x.go(1, 0, 100);
        DUE.is("9: the greatest STRONG, as far apart", x.piece(0, 1) - x.piece(1, 1), 999_999);
        DUE.is("9: it holds", x.count(10), 0);
        x.deck(2);
        x.go(0, 0, 99);
        DUE.is("9: it holds yet", x.count(10), 0);
        x.go(0, 0, 1);
        DUE.is("9: a million apart", x.count(10), 1);
        x.deck(2);
        x.set(9, 1);
        x.shape(0, 2, 9999);
        x.go(1, 0, 0);
        DUE.is("9: no tick, no tear", x.count(10), 0);
    }

    /** "Then each STAY .. SLIPS ..; each LINK .. TEARS": what gives is felt in the next tick alone. */
    private static void thenComesBehindTheTick() {
        GallopRoads x = DeckTest.bare("");
        x.deck(2);
        x.set(7, 50);
        x.set(8, 10);
        x.shape(1, 1, 100);
        x.go(0, 0, 1);
        row("9: it held in that tick", x, 3, -100, -100);
        row("9: and 0 does not slip", x, 4, 2, 2);
        x.shape(1, 1, 200);
        x.set(8, 5);
        x.go(0, 0, 1);
        row("9: it held in this, too", x, 3, -100, -100);
        row("9: and slips behind it", x, 4, 1, 1);
        x.go(0, 0, 1);
        row("9: it pulls no more", x, 3, -100, -100);
        GallopRoads y = DeckTest.bare("");
        y.deck(2);
        y.set(2, 10);
        y.set(9, 1);
        y.shape(1, 2, 100);
        y.go(0, 0, 1);
        // 10*(-100-200) = -3000, and back: to -200 and 200
        row("9: the link pulled in that tick", y, 3, -300, 300);
        row("9: and tore", y, 5, 1, 0);
        y.go(0, 0, 1);
        // over the torn link: 10*(-200+400) = 2000
        row("9: not in the next", y, 3, -100, 100);
    }

    /** "PIECE i of n has a, if i times j by n (cut) is even, else less a; all else is 0", of each n and j. */
    private static void shapesOfAllPieces() {
        String[] ofHalves2 = {"+-", "++-", "++--", "+++--", "+++---", "++++---", "++++----"};
        String[] ofHalves3 = {"+-", "+-+", "++-+", "++--+", "++--++", "+++--++", "+++---++"};
        String[] ofHalves4 = {"++", "+-+", "+-+-", "++-+-", "++-++-", "++--++-", "++--++--"};
        for (int n = 2; n <= 8; n++) {
            shape(n, 1, "++++++++".substring(0, n));
            shape(n, 2, ofHalves2[n - 2]);
            shape(n, 3, ofHalves3[n - 2]);
            shape(n, 4, ofHalves4[n - 2]);
        }
    }

    private static void shape(int n, int halves, String signs) {
        GallopRoads x = DeckTest.bare("lift 3;twist 5;");
        x.deck(n);
        x.go(0, 0, 2);
        for (int kind = 0; kind < 2; kind++) {
            DUE.is("8: SIZE", x.shape(kind, halves, 7), 7);
            for (int i = 0; i < n; i++) {
                String about = "8: n " + n + ", halves " + halves + ", piece " + i;
                DUE.is(about, x.piece(i, kind), signs.charAt(i) == '+' ? 7 : -7);
                DUE.is(about + ", the other", x.piece(i, 1 - kind), 0);
                DUE.is(about + ", up", x.piece(i, 2), 0);
                DUE.is(about + ", spin", x.piece(i, 3), 0);
            }
        }
    }

    /** "size a (1 to 9,999)", "kind 0 (heights) or 1 (turns), HALVES j (1 to 4)". */
    private static void shapesUpTo9999() {
        GallopRoads x = DeckTest.bare("");
        DUE.is("8: the least", x.shape(0, 1, 1), 1);
        DUE.is("8: the greatest", x.shape(1, 4, 9999), 9999);
        String was = Due.seen(x);
        int[][] wrong = {{-1, 1, 1}, {2, 1, 1}, {0, 0, 1}, {0, 5, 1}, {0, -1, 1}, {0, 1, 0}, {0, 1, 10_000}, {0, 1, -1},
            {Integer.MIN_VALUE, 1, 1}, {0, Integer.MAX_VALUE, 1}, {0, 1, Integer.MIN_VALUE}, {0, 1, Integer.MAX_VALUE}};
        for (int[] w : wrong) {
            DUE.illegal("8: shape " + w[0] + ", " + w[1] + ", " + w[2], () -> x.shape(w[0], w[1], w[2]));
        }
        DUE.same("8: refused, it does nothing", Due.seen(x), was);
    }

    /** "So many TICKS (0 to 100)". */
    private static void goesUpTo100Ticks() {
        GallopRoads x = DeckTest.bare("twist 1 if tick=0;");
        DUE.is("9: none", x.go(0, 0, 0), 0);
        x.shape(1, 2, 77);
        DUE.is("9: none, SIZE as it is", x.go(0, 0, 0), 77);
        x.shape(0, 2, 77);
        DUE.is("9: none, SIZE of turns alone", x.go(0, 0, 0), 0);
        DUE.is("34: none were", x.count(2), 0);
        DUE.is("9: one", x.go(0, 0, 1), 1);
        DUE.is("9: a hundred", x.go(0, 99, 100), 101);
        DUE.is("34: 101 were", x.count(2), 101);
        String was = Due.seen(x);
        for (int ticks : new int[] {-1, 101, Integer.MIN_VALUE, Integer.MAX_VALUE}) {
            DUE.illegal("9: ticks " + ticks, () -> x.go(0, 0, ticks));
        }
        for (int wind : new int[] {-1, 100, Integer.MIN_VALUE, Integer.MAX_VALUE}) {
            DUE.illegal("9: wind " + wind, () -> x.go(0, wind, 1));
        }
        for (int law : new int[] {-1, 1, 4, Integer.MIN_VALUE, Integer.MAX_VALUE}) {
            DUE.index("9: law " + law, () -> x.go(law, 0, 1));
        }
        DUE.same("9: refused, it does nothing", Due.seen(x), was);
    }

    /** Promise 7: "NoSuchElementException: no such PIECE". */
    private static void staysOfThePiecesThatThereAre() {
        GallopRoads x = DeckTest.bare("");
        for (int n = 2; n <= 8; n++) {
            x.deck(n);
            for (int piece : new int[] {-1, n, 8, Integer.MIN_VALUE, Integer.MAX_VALUE}) {
                DUE.missing("7: piece " + piece + " of " + n, () -> x.stay(piece, false));
                DUE.missing("10: piece " + piece + " of " + n, () -> x.piece(piece, 0));
                DUE.missing("11: piece " + piece + " of " + n, () -> x.push(0, 0, piece, false));
                DUE.missing("18: piece " + piece + " of " + n, () -> x.film(1, piece, 0, 0));
            }
            DUE.is("7: the first", x.stay(0, true), 2);
            DUE.is("7: the last", x.stay(n - 1, false), 2);
            DUE.is("7: it has none", x.piece(n - 1, 4), 0);
            DUE.is("18: a row of the last", x.film(1, n - 1, 0, 0), n - 1);
        }
    }

    /** Promise 10: 0 to 5; "0 of the last". */
    private static void piecesAndWhats() {
        GallopRoads x = DeckTest.bare("");
        for (int n = 2; n <= 8; n++) {
            x.deck(n);
            x.set(9, 1);
            x.shape(1, 1, 9999);
            x.go(0, 0, 1);
            DUE.is("10: the last has no link", x.piece(n - 1, 5), 0);
            DUE.is("34: nothing beyond it tears", x.count(10), 0);
            for (int what : new int[] {-1, 6, Integer.MIN_VALUE, Integer.MAX_VALUE}) {
                DUE.illegal("10: what " + what, () -> x.piece(0, what));
            }
        }
    }

    /** "An object is used for at most 512 calls after it has been made". */
    private static void theFiveHundredTwelfthCall() {
        GallopRoads x = new GallopRoads();
        int[] f = Due.fed("lift tick;", 0);
        x.feed(f[0], f[1], f[2], f[3], f[4]);
        x.law(10);
        for (int call = 3; call <= 511; call++) {
            DUE.is("9: call " + call, x.go(0, 99, 100), 0);
        }
        DUE.is("11: the last call", x.push(0, 0, 0, false), 50_900);
    }
}
