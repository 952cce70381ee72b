/** Promises 12 to 17 and 31: what trials tell. */
public final class TrialsTest {
    private static final Due DUE = new Due();

    public static void main(String[] args) {
        grows();
        trialsStartAnew();
        lines();
        whys();
        breaks();
        slips();
        shuts();
        wrongInputs();
        DUE.end();
    }

    /** A law that moves all turns by a number behind one tick alone. */
    private static String nudge(int tick, int by) {
        return "twist " + by + " if tick=" + (tick - 1) + ";twist 0-" + by + " if tick=" + tick + ";";
    }

    private static void grows() {
        GallopRoads x = DeckTest.bare("", nudge(30, 5), nudge(31, 5), nudge(60, 1));
        DUE.is("12: as it is", x.grows(0, 0, 1, 1), false);
        DUE.is("12: late no more than early", x.grows(1, 0, 1, 1), false);
        DUE.is("12: above from 31 on", x.grows(2, 0, 1, 1), true);
        DUE.is("12: heights do not", x.grows(2, 0, 0, 1), false);
        DUE.is("12: the last tick", x.grows(3, 0, 1, 1), true);
        GallopRoads y = DeckTest.bare(nudge(61, 1),
            nudge(10, 6) + "twist 0-6 if tick=19;twist 6 if tick=20;" + nudge(31, 5),
            "lift 1 if wind=99 and piece=2;", "lift sign(height) if height<0;");
        DUE.is("12: behind the last tick", y.grows(0, 0, 1, 1), false);
        DUE.is("12: early above late", y.grows(1, 0, 1, 1), false);
        DUE.is("12: no wind 98", y.grows(2, 98, 0, 1), false);
        DUE.is("12: one piece is enough", y.grows(2, 99, 0, 1), true);
        DUE.is("12: turns do not", y.grows(2, 99, 1, 1), false);
        DUE.is("12: a shape with a minus", y.grows(3, 0, 0, 4), true);
        GallopRoads z = DeckTest.bare("lift height if turn>500;", "lift 1 if height=0-100;");
        DUE.is("12: other kind is 0", z.grows(0, 0, 0, 1), false);
        DUE.is("12: halves 1 have no minus", z.grows(1, 0, 0, 1), false);
    }

    private static void trialsStartAnew() {
        GallopRoads x = DeckTest.bare("twist 500 if piece<2;", "twist turn/20;");
        x.set(8, 1);
        x.set(9, 200);
        int anew = x.slip(1, 0, 1);
        DUE.is("12: no growth while stays hold", x.grows(1, 0, 1, 1), false);
        x.go(0, 0, 60);
        DUE.is("12: slipped", x.count(9), 2);
        DUE.is("12: torn", x.count(10), 1);
        DUE.is("12: nothing slipped in a trial", x.grows(1, 0, 1, 1), false);
        DUE.is("17: nothing slipped in a trial", x.slip(1, 0, 1), anew);
        DUE.is("15: nothing slipped in a trial", x.first(1, 0, 1, 1, false), -1);
        DUE.is("15: nothing torn in a trial", x.first(1, 0, 1, 1, true), -1);
        DUE.is("12: the deck stays as it was", x.count(2), 60);
        DUE.is("12: its turns, too", x.piece(1, 1), 500 * 60 * 61 / 2);
        DUE.is("12: its stays, too", x.count(9), 2);
        DUE.is("12: its links, too", x.count(10), 1);
    }

    private static void lines() {
        GallopRoads x = DeckTest.bare("twist sign(turn) if wind>59;", "twist sign(turn) if wind>60;", "twist sign(turn);",
            "lift sign(height) if wind=7 or wind>20;");
        DUE.is("13: 60", x.line(0, 1, 1), 60);
        DUE.is("13: beyond", x.line(1, 1, 1), -1);
        DUE.is("13: 0", x.line(2, 1, 4), 0);
        DUE.is("13: the least", x.line(3, 0, 2), 7);
        DUE.is("13: other kind", x.line(3, 1, 2), -1);
    }

    private static void whys() {
        GallopRoads x = DeckTest.bare("twist sign(turn);", "twist sign(turn) if turn<150 and turn>0-150;",
            "twist sign(turn) if turn>150 or turn<0-150;", "twist sign(turn) if turn<500 and turn>0-500;");
        DUE.is("14: fed", x.why(0, 0, 1, 2), 1);
        DUE.is("14: beaten", x.why(1, 0, 1, 2), 2);
        DUE.is("14: neither", x.why(2, 0, 1, 2), 0);
        DUE.is("14: both", x.why(3, 0, 1, 2), 3);
        DUE.is("14: heights", x.why(3, 0, 0, 2), 0);
        GallopRoads y = DeckTest.bare("twist turn/100 if wind=9;", "twist sign(turn) if turn<2 and turn>0-2;",
            "twist sign(turn) if turn<150 and turn>50 or turn>900;", "twist sign(turn) if turn<900;");
        DUE.is("14: fed by wind 9; of 1 a hundredth is 0", y.why(0, 9, 1, 1), 1);
        DUE.is("14: not by wind 8", y.why(0, 8, 1, 1), 0);
        DUE.is("14: by size 1 alone", y.why(1, 0, 1, 1), 2);
        DUE.is("14: by 100 and 1000", y.why(2, 0, 1, 1), 0);
        DUE.is("14: not by 1000", y.why(3, 0, 1, 1), 3);
        GallopRoads z = DeckTest.bare("twist 1 if tick=0 and [turn=100 or turn=200];", "twist 1 if tick=0 and not turn=1000;",
            "twist 1 if tick=0 and turn=1;", "twist 1 if tick=0 and [turn=100 or turn=1 or turn=1000];");
        DUE.is("14: 100 and 200", z.why(0, 0, 1, 1), 1);
        DUE.is("14: all but 1000", z.why(1, 0, 1, 1), 3);
        DUE.is("14: 1 alone", z.why(2, 0, 1, 1), 2);
        DUE.is("14: 100 without 200, 1 with 1000", z.why(3, 0, 1, 1), 0);
    }

    private static void breaks() {
        GallopRoads x = DeckTest.bare("twist 100 if piece=2;", "twist 100 if piece=3 and tick=58 or piece=1 and tick=59;",
            "twist 0-450 if tick=59;", "twist 450 if tick=60;");
        DUE.is("15: 200, then 400", x.first(0, 0, 1, 1, false), 2);
        DUE.is("16: piece 2", x.where(0, 0, 1, 1, false), 2);
        DUE.is("15: no link", x.first(0, 0, 1, 1, true), -1);
        DUE.is("16: no link", x.where(0, 0, 1, 1, true), -1);
        x.set(9, 250);
        DUE.is("15: 300 apart", x.first(0, 0, 1, 1, true), 2);
        DUE.is("16: the link ahead of piece 2", x.where(0, 0, 1, 1, true), 1);
        x.set(9, 99);
        DUE.is("15: 100 apart", x.first(0, 0, 1, 1, true), 1);
        x.set(9, 199);
        DUE.is("15: apart as it begins", x.first(2, 0, 1, 2, true), 1);
        DUE.is("16: in the middle", x.where(2, 0, 1, 2, true), 1);
        x.set(9, 0);
        x.set(7, 250);
        DUE.is("15: the last tick but one", x.first(1, 0, 1, 1, false), 60);
        DUE.is("16: least behind that tick", x.where(1, 0, 1, 1, false), 3);
        x.set(7, 199);
        DUE.is("15: earlier", x.first(1, 0, 1, 1, false), 59);
        x.set(7, 150);
        DUE.is("15: earliest", x.first(1, 0, 1, 1, false), 59);
        DUE.is("16: with it", x.where(1, 0, 1, 1, false), 3);
        x.set(7, 300);
        DUE.is("15: behind tick 60", x.first(2, 0, 1, 1, false), 60);
        DUE.is("16: all of them", x.where(2, 0, 1, 1, false), 0);
        DUE.is("15: behind tick 61", x.first(3, 0, 1, 1, false), -1);
        DUE.is("16: none", x.where(3, 0, 1, 1, false), -1);
        x.stay(0, false);
        DUE.is("16: piece 0 has none", x.where(2, 0, 1, 1, false), 1);
        DUE.is("15: of heights: 100, 300, 600", x.first(0, 0, 0, 1, false), 3);
    }

    private static void slips() {
        GallopRoads x = DeckTest.bare("twist turn/20;", "", "twist sign(turn);", "twist sign(turn) if wind=9;");
        x.set(7, 9999);
        DUE.is("17: with them and without", x.slip(2, 0, 2), 3);
        x.set(8, 1);
        DUE.is("17: without any alone", x.slip(0, 0, 1), 2);
        DUE.is("17: neither", x.slip(1, 0, 1), 0);
        x.set(7, 0);
        x.set(8, 99);
        DUE.is("17: thrown by the stays", x.slip(1, 0, 1), 1);
        x.set(8, 0);
        DUE.is("17: by wind 9", x.slip(3, 9, 1), 3);
        DUE.is("17: not by wind 8", x.slip(3, 8, 1), 0);
        for (int i = 0; i < 4; i++) {
            DUE.is("17: the deck keeps its stays", x.stay(i, false), 2);
        }
        x.set(8, 99);
        DUE.is("17: as they are is none", x.slip(1, 0, 1), 0);
    }

    private static void shuts() {
        GallopRoads x = DeckTest.bare("twist 100;", "lift 0-1;", "twist 10 if tick=99;", "twist 10 if tick=100;");
        DUE.is("31: 100, 200, 400", x.shut(0, 0, 1, 1, 100, 399), 2);
        DUE.is("31: above", x.shut(0, 0, 1, 1, 100, 400), 3);
        DUE.is("31: other size", x.shut(0, 0, 1, 1, 9999, 9999), 1);
        DUE.is("31: at once", x.shut(1, 0, 0, 2, 1, 0), 1);
        DUE.is("31: 1 less 1, 3, 6 without its sign", x.shut(1, 0, 0, 1, 1, 4), 3);
        DUE.is("31: of heights alone", x.shut(0, 0, 0, 1, 100, 100), -1);
        DUE.is("31: tick 100", x.shut(2, 0, 1, 1, 100, 100), 100);
        DUE.is("31: never", x.shut(3, 0, 1, 1, 100, 100), -1);
        DUE.is("31: a million", x.shut(0, 0, 1, 1, 100, 1_000_000), -1);
        x.go(0, 0, 100);
        DUE.is("31: as of a trial", x.shut(2, 0, 1, 1, 100, 100), 100);
        DUE.is("31: nothing changed", x.count(2), 100);
        DUE.illegal("31: size 0", () -> x.shut(0, 0, 1, 1, 0, 1));
        DUE.illegal("31: size 10000", () -> x.shut(0, 0, 1, 1, 10_000, 1));
        DUE.illegal("31: above -1", () -> x.shut(0, 0, 1, 1, 1, -1));
        DUE.illegal("31: above 1000001", () -> x.shut(0, 0, 1, 1, 1, 1_000_001));
    }

    private static void wrongInputs() {
        GallopRoads x = DeckTest.bare("");
        int[][] wrong = {{-1, 0, 1}, {100, 0, 1}, {0, -1, 1}, {0, 2, 1}, {0, 0, 0}, {0, 0, 5}};
        for (int[] w : wrong) {
            String all = w[0] + ", " + w[1] + ", " + w[2];
            DUE.illegal("12: grows " + all, () -> x.grows(0, w[0], w[1], w[2]) ? 1 : 0);
            DUE.illegal("14: why " + all, () -> x.why(0, w[0], w[1], w[2]));
            DUE.illegal("15: first " + all, () -> x.first(0, w[0], w[1], w[2], false));
            DUE.illegal("16: where " + all, () -> x.where(0, w[0], w[1], w[2], true));
            DUE.illegal("31: shut " + all, () -> x.shut(0, w[0], w[1], w[2], 1, 1));
            if (w[0] == 0) {
                DUE.illegal("13: line " + all, () -> x.line(0, w[1], w[2]));
            }
            if (w[1] == 0) {
                DUE.illegal("17: slip " + all, () -> x.slip(0, w[0], w[2]));
            }
            for (int law : new int[] {-1, 1, 4, Integer.MAX_VALUE}) {
                DUE.index("12: law ahead", () -> x.grows(law, w[0], w[1], w[2]) ? 1 : 0);
                DUE.index("13: law ahead", () -> x.line(law, w[1], w[2]));
                DUE.index("14: law ahead", () -> x.why(law, w[0], w[1], w[2]));
                DUE.index("15: law ahead", () -> x.first(law, w[0], w[1], w[2], false));
                DUE.index("16: law ahead", () -> x.where(law, w[0], w[1], w[2], false));
                DUE.index("17: law ahead", () -> x.slip(law, w[0], w[2]));
                DUE.index("31: law ahead", () -> x.shut(law, w[0], w[1], w[2], 0, -1));
            }
        }
    }
}
