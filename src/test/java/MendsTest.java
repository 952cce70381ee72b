/** Promises 20 to 24: mends, what is calm, the week, spans. */
public final class MendsTest {
    private static final Due DUE = new Due();

    public static void main(String[] args) {
        mends();
        calm();
        calmOfEachShape();
        mended();
        withinBounds();
        week();
        spans();
        wrongInputs();
        DUE.end();
    }

    private static void mends() {
        GallopRoads x = new GallopRoads();
        DUE.illegal("20: which -1", () -> x.mend(-1, 0, 0));
        DUE.illegal("20: which 10", () -> x.mend(10, 0, 0));
        DUE.illegal("20: v", () -> x.mend(0, 1_000_000, 0));
        DUE.illegal("20: v below", () -> x.mend(0, -1_000_000, 0));
        DUE.illegal("20: cost -1", () -> x.mend(0, 0, -1));
        DUE.illegal("20: cost 1000", () -> x.mend(0, 0, 1000));
        DUE.is("20: none yet", x.count(4), 0);
        for (int k = 0; k < 5; k++) {
            DUE.is("20: mend " + k, x.mend(9 - k, k % 2 == 0 ? 999_999 : -999_999, 999), k);
        }
        DUE.is("20: a sixth", x.mend(0, 0, 0), -1);
        DUE.is("20: five", x.count(4), 5);
        DUE.illegal("20: wrong even then", () -> x.mend(10, 0, 0));
        DUE.is("20: the numbers stay", x.count(29), 0);
    }

    private static void calm() {
        GallopRoads x = DeckTest.bare("lift height if height=0-100 and piece=2;", "twist sign(turn) if turn<0 and piece=4;", "twist 1 if wind=99;", "");
        // of 4 pieces, piece 2 is down with two or three halves, piece 1 with four alone
        DUE.is("21: heights", x.calm(0, 0), false);
        DUE.is("21: no piece 4", x.calm(1, 0), true);
        x.deck(5);
        // 4*1/5, 4*2/5, 4*3/5 are 0, 1, 2
        DUE.is("21: turns", x.calm(1, 0), false);
        DUE.is("21: wind 99", x.calm(2, 99), false);
        DUE.is("21: wind 98", x.calm(2, 98), true);
        DUE.is("21: nothing", x.calm(3, 0), true);
        GallopRoads y = DeckTest.bare("lift height if height=0-100 and piece=1;", "twist turn if turn=0-100 and piece=3;",
            "lift height if height=0-100 and piece=7;", "twist turn if turn=0-100 and piece=3;");
        DUE.is("21: halves 4 are no matter", y.calm(0, 0), true);
        DUE.is("21: halves 2 of 4", y.calm(1, 0), false);
        y.deck(8);
        DUE.is("21: halves 3 are even at the end of 8", y.calm(2, 0), false);
        // of 8 pieces, piece 3 is down with three halves alone (9/8)
        DUE.is("21: halves 3 matter", y.calm(3, 0), false);
        DUE.is("21: the deck stays", y.count(2), 0);
    }

    /** Of 8 pieces, piece 4 is up with one half alone, 7 is down with two, 3 is down with three. */
    private static void calmOfEachShape() {
        for (String move : new String[] {"lift SIZE if tick=0 and height=", "twist SIZE if tick=0 and turn="}) {
            GallopRoads x = DeckTest.bare(move.replace("SIZE", "1") + "100 and piece=4;",
                move.replace("SIZE", "0-1") + "0-100 and piece=7;", move.replace("SIZE", "0-1") + "0-100 and piece=3;");
            x.deck(8);
            for (int law = 0; law < 3; law++) {
                DUE.is("21: " + move + ", halves " + (law + 1), x.calm(law, 0), false);
            }
        }
    }

    private static void mended() {
        GallopRoads x = DeckTest.bare("lift sign(height) if holes<50;twist sign(turn) if wind>40;", "lift 1;");
        DUE.is("22: no mends", x.mended(0, 0), -1);
        DUE.is("22: calm as it is", DeckTest.bare("").mended(0, 0), 0);
        x.mend(6, 20, 9);
        x.mend(6, 30, 30);
        x.mend(6, 50, 40);
        x.mend(6, -50, 0);
        x.mend(6, 30, 31);
        // 50 at least: 0 and 1 for 39, 2 for 40; 3 comes behind both and undoes them; 0 and 4 for 40
        DUE.is("22: the least cost", x.mended(0, 0), 3);
        DUE.is("22: by none", x.mended(0, 41), -1);
        DUE.is("22: nor this", x.mended(1, 0), -1);
        DUE.is("22: the numbers stay", x.count(26), 0);
        GallopRoads y = DeckTest.bare("lift sign(height) if holes<50;");
        y.mend(6, 49, 7);
        y.mend(6, 50, 7);
        y.mend(6, 51, 7);
        y.mend(6, 1, 0);
        DUE.is("22: of the same cost the first by bits", y.mended(0, 0), 2);
        GallopRoads later = DeckTest.bare("lift sign(height) if holes<50;");
        later.mend(6, 50, 40);
        later.mend(6, 25, 19);
        later.mend(6, 50, 39);
        later.mend(6, 25, 19);
        DUE.is("22: a later one that costs less", later.mended(0, 0), 10);
        GallopRoads z = DeckTest.bare("lift sign(height) if holes<50;");
        z.mend(6, -99, 0);
        z.mend(6, 50, 0);
        z.mend(6, 60, 0);
        DUE.is("22: all for nothing", z.mended(0, 0), 2);
    }

    private static void withinBounds() {
        GallopRoads x = DeckTest.bare("lift sign(height) if holes<90;");
        x.mend(6, 999_999, 1);
        x.mend(6, -9, 1);
        // 99, and 90 then; were it not within its bounds, it would be far above
        DUE.is("22: within bounds", x.mended(0, 0), 1);
        GallopRoads y = DeckTest.bare("lift sign(height) if holes<99 or holes>99 or side>0;");
        y.set(5, 3);
        y.mend(5, -999_999, 1);
        y.mend(6, 999_999, 1);
        y.mend(5, 0, 1);
        DUE.is("22: 0 and 99", y.mended(0, 0), 3);
        GallopRoads z = DeckTest.bare("lift sign(height) if not holes=3;");
        z.set(6, 5);
        z.mend(6, -9, 1);
        z.mend(6, 3, 1);
        // 5-9 is 0, and 3; the other way round it would be 8, and 0
        DUE.is("22: made in order", z.mended(0, 0), 3);
        GallopRoads mass = DeckTest.bare("lift 0-9 if height=0-100;");
        mass.set(0, 9);
        mass.mend(0, -999_999, 3);
        mass.mend(0, 1, 0);
        DUE.is("22: nine by ten is nothing", mass.mended(0, 0), 2);
    }

    private static void week() {
        // calm up to the wind that holes tell
        GallopRoads x = DeckTest.bare("lift sign(height) if wind>holes-1;", "");
        DUE.is("23: no mends", x.week(0, 0), -1);
        x.mend(6, 3, 0);
        x.mend(6, 7, 999);
        x.mend(6, 5, 0);
        x.mend(6, 7, 0);
        x.mend(6, -6, 0);
        // 7 first; then 14, 12 and 10 of which wind 12 is as far as it goes: 7+5 is 12 (calm to 11), 7+7 to 12
        DUE.is("23: day 0", x.week(0, 0), 1);
        DUE.is("23: day 1", x.week(0, 1), 3);
        // 14+3, 14+5, 14-6: to 12, to 12, to 7
        DUE.is("23: day 2", x.week(0, 2), 0);
        DUE.is("23: day 3", x.week(0, 3), 2);
        DUE.is("23: day 4", x.week(0, 4), 4);
        DUE.is("23: day 5", x.week(0, 5), -1);
        DUE.is("23: far on", x.week(0, Integer.MAX_VALUE), -1);
        for (int day = 0; day < 5; day++) {
            DUE.is("23: all calm, day " + day, x.week(1, day), day);
        }
        DUE.is("23: the numbers stay", x.count(26), 0);
        GallopRoads y = DeckTest.bare("lift sign(height) if wind=3 and holes<5 or wind=0 and side>0;");
        y.mend(6, 50, 0);
        y.mend(5, -99, 0);
        // at all from 0 on: holes alone leave -1, side alone leaves 2
        DUE.is("23: -1 if not at 0", y.week(0, 0), 1);
        DUE.is("23: then", y.week(0, 1), 0);
        GallopRoads z = DeckTest.bare("lift sign(height) if wind>12;");
        z.mend(6, 1, 0);
        z.mend(6, 2, 0);
        DUE.is("23: beyond 12 is no matter", z.week(0, 0), 0);
        GallopRoads w = DeckTest.bare("lift sign(height) if wind=12 and holes=0;");
        w.mend(5, 1, 0);
        w.mend(6, 2, 0);
        DUE.is("23: 12 is", w.week(0, 0), 1);
        GallopRoads v = DeckTest.bare("lift sign(height) if wind=13 and holes=0;");
        v.mend(5, 1, 0);
        v.mend(6, 2, 0);
        DUE.is("23: 13 is none", v.week(0, 0), 0);
    }

    private static void spans() {
        GallopRoads x = DeckTest.bare("twist turn*wind/100;", "twist sign(turn)*wind/10;", "twist turn if wind>60;", "twist 1 if wind=60;");
        // grows as soon as told is 1: wind 1; by half of it, wind 2; by half more, wind 1
        DUE.is("24: least", x.span(0, 1, 1, 50, false), 1);
        DUE.is("24: greatest", x.span(0, 1, 1, 50, true), 2);
        DUE.is("24: s 0", x.span(0, 1, 1, 0, true), 1);
        DUE.is("24: told 1 from 10 on", x.span(1, 1, 1, 0, false), 10);
        DUE.is("24: 99 hundredths of 1 are 0, of 2 are 1", x.span(1, 1, 1, 1, true), 20);
        DUE.is("24: least is as told", x.span(1, 1, 1, 1, false), 10);
        DUE.is("24: less than half", x.span(1, 1, 1, 50, true), 20);
        DUE.is("24: no line", x.span(2, 1, 1, 50, true), -1);
        DUE.is("24: no line, least", x.span(2, 1, 1, 50, false), -1);
        DUE.is("24: of those that there are", x.span(3, 1, 1, 9, true), 60);
        DUE.is("24: of those that there are, least", x.span(3, 1, 1, 9, false), 60);
        GallopRoads y = DeckTest.bare("lift 2 if tick=0 and wind=30;lift 0-2 if tick=1 and wind=30 and up<3;"
            + "lift 1 if wind=50 and tick=40;");
        // as told, wind 30 lifts by 2 and stops it; by half more it lifts by 3 and nothing stops it;
        // by half less wind 50 comes to nothing, too
        DUE.is("24: as told", y.line(0, 0, 1), 50);
        DUE.is("24: more alone at 30", y.span(0, 0, 1, 50, false), 30);
        DUE.is("24: as told at 50", y.span(0, 0, 1, 50, true), 50);
        DUE.is("24: 149 hundredths of 2 are 2", y.span(0, 0, 1, 49, false), 50);
    }

    private static void wrongInputs() {
        GallopRoads x = DeckTest.bare("");
        DUE.index("21: law", () -> x.calm(1, -1) ? 1 : 0);
        DUE.index("22: law", () -> x.mended(-1, -1));
        DUE.index("23: law", () -> x.week(1, -1));
        DUE.index("24: law", () -> x.span(1, 2, 0, 51, true));
        for (int wind : new int[] {-1, 100, Integer.MIN_VALUE}) {
            DUE.illegal("21: wind", () -> x.calm(0, wind) ? 1 : 0);
            DUE.illegal("22: wind", () -> x.mended(0, wind));
        }
        DUE.illegal("23: day", () -> x.week(0, -1));
        DUE.illegal("24: kind", () -> x.span(0, 2, 1, 0, true));
        DUE.illegal("24: halves", () -> x.span(0, 0, 0, 0, true));
        DUE.illegal("24: s -1", () -> x.span(0, 0, 1, -1, true));
        DUE.illegal("24: s 51", () -> x.span(0, 0, 1, 51, false));
        DUE.is("24: s 50", x.span(0, 0, 1, 50, false), -1);
    }
}
