/** Trials at their bounds: each method holds one sentence of the document. */
public final class EdgesOfTrialsTest {
    private static final Due DUE = new Due();
    private static final String[] MOVES = {"lift", "twist"};
    private static final String[] PLACES = {"height", "turn"};

    public static void main(String[] args) {
        growsBehindTicks31To60();
        aboveTheGreatest();
        aboveNothing();
        sizeIsWithoutItsSign();
        sizeIsOfItsKind();
        aTrialIsOnADeckAnew();
        aTrialKeepsNumbersPiecesAndStays();
        linesFrom0To60();
        fedBy100And200();
        beatenBy1AndNot1000();
        firstBehindTicks1To60();
        whereTheLeastIs();
        slipWithAndWithout();
        shutBehindTicks1To100();
        shutAboveATold();
        windsUpTo99();
        DUE.end();
    }

    /** A law by which all pieces, of one kind, stand so much farther behind a tick and from then on. */
    private static String hop(int kind, int tick, String by) {
        return MOVES[kind] + " " + by + " if tick=" + (tick - 1) + ";" + MOVES[kind] + " 0-" + by + " if tick=" + tick + ";";
    }

    /** "if the greatest SIZE behind TICKS 31 to 60 is above the greatest of those behind TICKS 1 to 30" (60 TICKS). */
    private static void growsBehindTicks31To60() {
        int[] ticks = {1, 2, 29, 30, 31, 32, 59, 60, 61, 62};
        for (int kind = 0; kind < 2; kind++) {
            for (int tick : ticks) {
                GallopRoads x = DeckTest.bare(hop(kind, tick, "1"));
                DUE.is("12: kind " + kind + ", one more behind tick " + tick, x.grows(0, 0, kind, 1), tick >= 31 && tick <= 60);
                DUE.is("12: the other kind", x.grows(0, 0, 1 - kind, 1), false);
            }
        }
    }

    /** "is above": as great is not above. */
    private static void aboveTheGreatest() {
        for (int kind = 0; kind < 2; kind++) {
            String early = hop(kind, 30, "5") + hop(kind, 31, "(0-5)");
            GallopRoads x = DeckTest.bare(early + hop(kind, 60, "4"), early + hop(kind, 60, "5"), early + hop(kind, 60, "6"), "");
            DUE.is("12: less", x.grows(0, 0, kind, 1), false);
            DUE.is("12: as great", x.grows(1, 0, kind, 1), false);
            DUE.is("12: above", x.grows(2, 0, kind, 1), true);
            DUE.is("12: at rest", x.grows(3, 0, kind, 1), false);
            String first = hop(kind, 1, "5") + hop(kind, 2, "(0-5)");
            GallopRoads y = DeckTest.bare(first + hop(kind, 31, "5"), first + hop(kind, 31, "6"));
            DUE.is("12: as great as behind tick 1", y.grows(0, 0, kind, 1), false);
            DUE.is("12: above that behind tick 1", y.grows(1, 0, kind, 1), true);
        }
    }

    /** "the greatest SIZE behind TICKS 1 to 30" may be 0, as what stands ahead of TICK 1 is no matter. */
    private static void aboveNothing() {
        for (int kind = 0; kind < 2; kind++) {
            String speed = kind == 0 ? "up" : "spin";
            String flat = MOVES[kind] + " 0-" + PLACES[kind] + " if tick=0;" + MOVES[kind] + " 0-" + speed + " if tick=1;";
            GallopRoads x = DeckTest.bare(flat, flat + hop(kind, 31, "1"), flat + hop(kind, 31, "99"), flat + hop(kind, 30, "1"));
            DUE.is("12: flat", x.grows(0, 0, kind, 1), false);
            DUE.is("12: from 0 to 1", x.grows(1, 0, kind, 1), true);
            DUE.is("12: from 0 to 99", x.grows(2, 0, kind, 1), true);
            DUE.is("12: a tick too early", x.grows(3, 0, kind, 1), false);
            DUE.is("14: of every size", x.why(1, 0, kind, 1), 1);
            DUE.is("31: 1 is above 0", x.shut(1, 0, kind, 1, 100, 0), 31);
            DUE.is("31: 0 is not", x.shut(0, 0, kind, 1, 100, 0), -1);
        }
    }

    /** "SIZE: of all PIECES the greatest height (or turn) without its sign". */
    private static void sizeIsWithoutItsSign() {
        for (int kind = 0; kind < 2; kind++) {
            for (int piece = 0; piece < 4; piece++) {
                String one = " if tick=40 and piece=" + piece + ";";
                GallopRoads x = DeckTest.bare(MOVES[kind] + " 0-201" + one, MOVES[kind] + " 0-200" + one, MOVES[kind] + " 1" + one);
                // 100 less 201 each tick: -101 behind tick 41; less 200: -100, and -300 then
                DUE.is("31: -101 of piece " + piece, x.shut(0, 0, kind, 1, 100, 100), 41);
                DUE.is("31: -100, then -300 of piece " + piece, x.shut(1, 0, kind, 1, 100, 100), 42);
                DUE.is("12: any piece", x.grows(2, 0, kind, 1), true);
            }
        }
        GallopRoads x = DeckTest.bare("twist 0-500*5 if piece=3;twist 400*5 if piece=1;", "lift 0-9999;");
        DUE.is("9: SIZE of turns", x.go(0, 0, 1), 2500);
        DUE.is("9: heights are no matter", x.go(1, 0, 1), 5000);
        DUE.is("8: SIZE then", x.shape(0, 4, 77), 77);
    }

    /** A SHAPE of heights has a SIZE of heights, one of turns of turns. */
    private static void sizeIsOfItsKind() {
        for (int kind = 0; kind < 2; kind++) {
            GallopRoads x = DeckTest.bare(MOVES[1 - kind] + " 500;");
            DUE.is("12: the other moves", x.grows(0, 0, kind, 1), false);
            DUE.is("31: the other moves", x.shut(0, 0, kind, 1, 100, 100), -1);
            DUE.is("31: of itself", x.shut(0, 0, 1 - kind, 1, 100, 100), 1);
        }
    }

    /** "nothing SLIPPED or TORN", and no TICKS, no speeds, no places but those of the SHAPE. */
    private static void aTrialIsOnADeckAnew() {
        String probe = "lift 1 if tick=0 and height=100 and turn=0 and up=0 and spin=0;";
        GallopRoads x = DeckTest.bare("lift 700;twist 500*piece;", probe, hop(1, 31, "1"));
        x.set(9, 100);
        DUE.is("12: ahead of it", x.grows(1, 0, 0, 1), true);
        DUE.is("12: and so", x.grows(2, 0, 1, 1), true);
        x.go(0, 0, 31);
        DUE.is("34: slipped", x.count(9), 3);
        DUE.is("34: torn", x.count(10), 3);
        DUE.is("12: anew", x.grows(1, 0, 0, 1), true);
        DUE.is("12: ticks anew", x.grows(2, 0, 1, 1), true);
        DUE.is("13: anew", x.line(1, 0, 1), 0);
        DUE.is("14: anew", x.why(1, 0, 0, 1), 0);
        DUE.is("15: none slipped", x.first(1, 0, 0, 1, false), -1);
        DUE.is("15: none torn", x.first(1, 0, 0, 1, true), -1);
        DUE.is("16: none slipped", x.where(1, 0, 0, 1, false), -1);
        DUE.is("16: none torn", x.where(1, 0, 0, 1, true), -1);
        DUE.is("17: anew", x.slip(2, 0, 1), 3);
        DUE.is("21: anew", x.calm(1, 0), false);
        DUE.is("24: anew", x.span(1, 0, 1, 0, true), 0);
        DUE.is("31: anew", x.shut(1, 0, 0, 1, 100, 100), 1);
        x.film(1, 0, 101, 0);
        DUE.is("19: anew", x.barred(1, 0, 0, 1, 100, 0), -1);
        x.film(1, 0, 100, 0);
        DUE.is("19: anew, and farther", x.barred(1, 0, 0, 1, 100, 0), 1);
        DUE.is("34: the ticks stay", x.count(2), 31);
        DUE.is("34: what slipped stays so", x.count(9), 3);
        DUE.is("34: what tore stays so", x.count(10), 3);
    }

    /** "on a DECK with the same numbers and STAYS". */
    private static void aTrialKeepsNumbersPiecesAndStays() {
        GallopRoads x = DeckTest.bare("lift 1 if piece=7;", "lift 1 if side=99 and holes=98;", "twist 1;");
        DUE.is("12: of four", x.grows(0, 0, 0, 1), false);
        x.deck(8);
        DUE.is("12: of eight", x.grows(0, 0, 0, 1), true);
        DUE.is("12: numbers as they were", x.grows(1, 0, 0, 1), false);
        x.set(5, 99);
        x.set(6, 98);
        DUE.is("12: numbers as they are", x.grows(1, 0, 0, 1), true);
        x.set(7, 99);
        DUE.is("15: stays that slip at once", x.first(2, 0, 1, 1, false), 1);
        for (int i = 0; i < 8; i++) {
            DUE.is("16: the least that has one", x.where(2, 0, 1, 1, false), i);
            x.stay(i, false);
        }
        DUE.is("15: without any", x.first(2, 0, 1, 1, false), -1);
        DUE.is("16: without any", x.where(2, 0, 1, 1, false), -1);
        x.stay(7, true);
        DUE.is("16: the last got one", x.where(2, 0, 1, 1, false), 7);
    }

    /** "LINE ..: the least WIND (0 to 60) by which it GROWS", "LINE; NONE". */
    private static void linesFrom0To60() {
        for (int kind = 0; kind < 2; kind++) {
            String push = MOVES[kind] + " 1 if wind";
            GallopRoads x = DeckTest.bare(push + "=0;", push + "=60;", push + "=61;", push + "=59 or wind>60;");
            DUE.is("13: 0", x.line(0, kind, 1), 0);
            DUE.is("13: 60", x.line(1, kind, 1), 60);
            DUE.is("13: 61 is none", x.line(2, kind, 1), -1);
            DUE.is("13: 59", x.line(3, kind, 1), 59);
            DUE.is("13: of the other kind", x.line(0, 1 - kind, 1), -1);
            GallopRoads y = DeckTest.bare(push + ">29;", push + "<99;", push + "=3 or wind=2;", "");
            DUE.is("13: from 30 on", y.line(0, kind, 4), 30);
            DUE.is("13: by any", y.line(1, kind, 4), 0);
            DUE.is("13: the least", y.line(2, kind, 4), 2);
            DUE.is("13: none", y.line(3, kind, 4), -1);
        }
    }

    private static String ifSize(int kind, String sizes) {
        StringBuilder text = new StringBuilder(MOVES[kind] + " 1 if tick=0 and [1=2");
        for (String size : sizes.split(" ")) {
            text.append(" or ").append(PLACES[kind]).append('=').append(size);
        }
        return text.append("];").toString();
    }

    /** "FED ..: if it GROWS with size 100 and with size 200, too". */
    private static void fedBy100And200() {
        for (int kind = 0; kind < 2; kind++) {
            GallopRoads x = DeckTest.bare(ifSize(kind, "100"), ifSize(kind, "200"), ifSize(kind, "100 200"),
                ifSize(kind, "99 101 199 201 2 300 10"));
            DUE.is("14: 100 alone", x.why(0, 0, kind, 1), 0);
            DUE.is("14: 200 alone", x.why(1, 0, kind, 1), 0);
            DUE.is("14: both", x.why(2, 0, kind, 1), 1);
            DUE.is("14: neither", x.why(3, 0, kind, 1), 0);
            DUE.is("14: the other kind", x.why(2, 0, 1 - kind, 1), 0);
        }
    }

    /** "BEATEN, if it GROWS with size 1 and not with size 1,000". */
    private static void beatenBy1AndNot1000() {
        for (int kind = 0; kind < 2; kind++) {
            GallopRoads x = DeckTest.bare(ifSize(kind, "1"), ifSize(kind, "1 1000"), ifSize(kind, "1000"), ifSize(kind, "2 0 10 999 1001"));
            DUE.is("14: 1 alone", x.why(0, 0, kind, 1), 2);
            DUE.is("14: 1 and 1000", x.why(1, 0, kind, 1), 0);
            DUE.is("14: 1000 alone", x.why(2, 0, kind, 1), 0);
            DUE.is("14: neither", x.why(3, 0, kind, 1), 0);
            GallopRoads y = DeckTest.bare(ifSize(kind, "1 100 200"), ifSize(kind, "1 100 200 1000"), ifSize(kind, "1 100"), ifSize(kind, "1 200 999"));
            DUE.is("14: both", y.why(0, 0, kind, 1), 3);
            DUE.is("14: by all four, fed alone", y.why(1, 0, kind, 1), 1);
            DUE.is("14: 1 and 100, beaten alone", y.why(2, 0, kind, 1), 2);
            DUE.is("14: 1 and 200, beaten alone", y.why(3, 0, kind, 1), 2);
        }
    }

    /** "the first TICK (1 to 60) behind which some STAY has SLIPPED (or, torn, some LINK is TORN); NONE". */
    private static void firstBehindTicks1To60() {
        for (int tick : new int[] {1, 2, 30, 31, 59, 60, 61, 62}) {
            int due = tick <= 60 ? tick : -1;
            GallopRoads x = DeckTest.bare(hop(1, tick, "201"), hop(1, tick, "200"), hop(1, tick, "201").replace(";", " and piece>1;"),
                hop(1, tick, "200").replace(";", " and piece>1;"));
            DUE.is("15: 301 behind tick " + tick, x.first(0, 0, 1, 1, false), due);
            DUE.is("16: the first piece", x.where(0, 0, 1, 1, false), due == -1 ? -1 : 0);
            DUE.is("15: 300 behind tick " + tick, x.first(1, 0, 1, 1, false), -1);
            DUE.is("16: none", x.where(1, 0, 1, 1, false), -1);
            DUE.is("15: no link: STRONG is 0", x.first(2, 0, 1, 1, true), -1);
            x.set(9, 200);
            DUE.is("15: 201 apart behind tick " + tick, x.first(2, 0, 1, 1, true), due);
            DUE.is("16: the link behind piece 1", x.where(2, 0, 1, 1, true), due == -1 ? -1 : 1);
            DUE.is("15: 200 apart behind tick " + tick, x.first(3, 0, 1, 1, true), -1);
            DUE.is("16: none is torn", x.where(3, 0, 1, 1, true), -1);
            DUE.is("15: stays apart from links", x.first(0, 0, 1, 1, true), -1);
        }
    }

    /** "The least PIECE of which it is so then (the LINK behind it); NONE." */
    private static void whereTheLeastIs() {
        String late = "twist 500 if tick=3 and piece=0;";
        GallopRoads x = DeckTest.bare("twist 201 if tick=2 and [piece=1 or piece=3];" + late, "twist 201 if tick=2 and piece=3;" + late,
            "twist 0-401 if tick=2;" + late);
        DUE.is("16: of 1 and 3", x.where(0, 0, 1, 1, false), 1);
        DUE.is("16: the last", x.where(1, 0, 1, 1, false), 3);
        DUE.is("16: of all", x.where(2, 0, 1, 1, false), 0);
        x.set(9, 200);
        DUE.is("16: links 0, 1 and 2", x.where(0, 0, 1, 1, true), 0);
        DUE.is("16: the last link", x.where(1, 0, 1, 1, true), 2);
        DUE.is("15: that of piece 0 comes later", x.first(2, 0, 1, 1, true), 4);
        DUE.is("16: that of piece 0", x.where(2, 0, 1, 1, true), 0);
        x.deck(2);
        DUE.is("16: the only link", x.where(2, 0, 1, 1, true), 0);
        DUE.is("16: it is not torn at all", x.where(1, 0, 1, 1, false), 0);
    }

    /** "Whether a SHAPE of turns GROWS with all STAYS as they are (1), and without any (2); together." */
    private static void slipWithAndWithout() {
        GallopRoads x = DeckTest.bare("twist 1 if tick=0;", "lift 1;", "twist 500*piece;", "twist 1 if tick=0 and turn<0;");
        DUE.is("17: both", x.slip(0, 0, 1), 3);
        DUE.is("17: heights are no matter", x.slip(1, 0, 1), 0);
        DUE.is("17: one half has none below", x.slip(3, 0, 1), 0);
        x.set(8, 1);
        DUE.is("17: a hundredth and more back, without any alone", x.slip(0, 0, 1), 2);
        x.stay(0, false);
        DUE.is("17: one without", x.slip(0, 0, 1), 3);
        x.stay(0, true);
        x.go(2, 0, 9);
        DUE.is("34: slipped", x.count(9), 3);
        DUE.is("17: they hold in a trial", x.slip(0, 0, 1), 2);
        for (int i = 0; i < 4; i++) {
            DUE.is("17: the deck keeps them as they are", x.piece(i, 4), i == 0 ? 2 : 1);
        }
        for (int halves = 1; halves <= 4; halves++) {
            DUE.is("17: halves " + halves, x.slip(3, 0, halves) >= 2, false);
        }
    }

    /** "the first TICK (1 to 100) behind which SIZE is above a told number ..; NONE". */
    private static void shutBehindTicks1To100() {
        for (int kind = 0; kind < 2; kind++) {
            for (int tick : new int[] {1, 2, 60, 61, 99, 100, 101}) {
                GallopRoads x = DeckTest.bare(hop(kind, tick, "5"));
                DUE.is("31: kind " + kind + ", tick " + tick, x.shut(0, 0, kind, 1, 100, 104), tick <= 100 ? tick : -1);
                DUE.is("31: as great is not above", x.shut(0, 0, kind, 1, 100, 105), -1);
                DUE.is("31: the first of many", x.shut(0, 0, kind, 1, 100, 99), 1);
                DUE.is("19: no film", x.barred(0, 0, kind, 1, 100, 0), -1);
            }
        }
    }

    /** "(0 to 1,000,000)", "size" (1 to 9,999). */
    private static void shutAboveATold() {
        GallopRoads x = DeckTest.bare("", "lift 9999*20;");
        DUE.is("31: 1 is above 0", x.shut(0, 0, 1, 4, 1, 0), 1);
        DUE.is("31: 1 is not above 1", x.shut(0, 0, 1, 4, 1, 1), -1);
        DUE.is("31: 9999 is above 9998", x.shut(0, 0, 0, 4, 9999, 9998), 1);
        DUE.is("31: 9999 is not above itself", x.shut(0, 0, 0, 4, 9999, 9999), -1);
        DUE.is("31: as high as it goes", x.shut(1, 0, 0, 1, 1, 999_999), 4);
        DUE.is("31: nothing is above a million", x.shut(1, 0, 0, 1, 1, 1_000_000), -1);
        // a shape is no tick: what is above at once counts behind tick 1 alone
        GallopRoads y = DeckTest.bare("lift 0-50;");
        DUE.is("31: 50 behind tick 1, -50 behind tick 2", y.shut(0, 0, 0, 1, 100, 99), 3);
    }

    /** "a WIND (0 to 99)". */
    private static void windsUpTo99() {
        for (int wind : new int[] {0, 99}) {
            GallopRoads x = DeckTest.bare("twist 201 if wind=" + wind + " and tick=0;");
            int other = wind == 0 ? 1 : 98;
            DUE.is("12: wind " + wind, x.grows(0, wind, 1, 1), true);
            DUE.is("12: wind " + other, x.grows(0, other, 1, 1), false);
            DUE.is("14: wind " + wind, x.why(0, wind, 1, 1), 1);
            DUE.is("14: wind " + other, x.why(0, other, 1, 1), 0);
            DUE.is("15: wind " + wind, x.first(0, wind, 1, 1, false), 1);
            DUE.is("15: wind " + other, x.first(0, other, 1, 1, false), -1);
            DUE.is("16: wind " + wind, x.where(0, wind, 1, 1, false), 0);
            DUE.is("16: wind " + other, x.where(0, other, 1, 1, false), -1);
            DUE.is("17: wind " + wind, x.slip(0, wind, 1), 3);
            DUE.is("17: wind " + other, x.slip(0, other, 1), 0);
            DUE.is("21: wind " + wind, x.calm(0, wind), false);
            DUE.is("21: wind " + other, x.calm(0, other), true);
            DUE.is("22: wind " + wind, x.mended(0, wind), -1);
            DUE.is("22: wind " + other, x.mended(0, other), 0);
            DUE.is("31: wind " + wind, x.shut(0, wind, 1, 1, 100, 100), 1);
            DUE.is("31: wind " + other, x.shut(0, other, 1, 1, 100, 100), -1);
        }
    }
}
