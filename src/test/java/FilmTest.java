/** Promises 18 and 19: the film, and what it bars. */
public final class FilmTest {
    private static final Due DUE = new Due();

    public static void main(String[] args) {
        rows();
        barred();
        piecesThatAreNoMore();
        wrongInputs();
        DUE.end();
    }

    private static void rows() {
        GallopRoads x = new GallopRoads();
        DUE.illegal("18: tick 0", () -> x.film(0, 0, 0, 0));
        DUE.illegal("18: tick 101", () -> x.film(101, 0, 0, 0));
        DUE.illegal("18: height", () -> x.film(1, 0, 1_000_001, 0));
        DUE.illegal("18: height below", () -> x.film(1, 0, -1_000_001, 0));
        DUE.illegal("18: turn", () -> x.film(1, 0, 0, 1_000_001));
        DUE.illegal("18: turn below", () -> x.film(1, 0, 0, -1_000_001));
        DUE.missing("18: piece ahead", () -> x.film(0, 4, 0, 0));
        DUE.missing("18: piece -1", () -> x.film(1, -1, 0, 0));
        for (int k = 1; k <= 20; k++) {
            DUE.is("18: row " + k, x.film(k % 2 == 0 ? 1 : 100, 3, 1_000_000, -1_000_000), k);
        }
        DUE.is("18: a 21st", x.film(1, 0, 0, 0), -1);
        DUE.is("18: twenty", x.count(3), 20);
        DUE.missing("18: a piece even then", () -> x.film(1, 4, 0, 0));
        DUE.illegal("18: a tick even then", () -> x.film(0, 0, 0, 0));
    }

    private static void barred() {
        GallopRoads x = DeckTest.bare("lift 10;twist wind;", "lift 10 if tick=99;");
        DUE.is("19: no film", x.barred(0, 0, 0, 1, 1, 0), -1);
        // lift 10: 110, 130, 160 from 100; twist 2: 2, 6, 12
        x.film(3, 1, 160, 12);
        DUE.is("19: as seen", x.barred(0, 2, 0, 1, 100, 0), -1);
        DUE.is("19: wind 3 turns more", x.barred(0, 3, 0, 1, 100, 0), 0);
        DUE.is("19: by 6", x.barred(0, 3, 0, 1, 100, 5), 0);
        DUE.is("19: not by more", x.barred(0, 3, 0, 1, 100, 6), -1);
        DUE.is("19: another size", x.barred(0, 2, 0, 1, 101, 0), 0);
        DUE.is("19: not by more than 1", x.barred(0, 2, 0, 1, 101, 1), -1);
        DUE.is("19: another kind", x.barred(0, 2, 1, 1, 100, 99), 0);
        DUE.is("19: far", x.barred(0, 2, 1, 1, 100, 100), -1);
        x.film(1, 2, 100, 2);
        x.film(1, 3, 90, 2);
        DUE.is("19: the first row, not the first tick", x.barred(0, 3, 0, 1, 100, 0), 0);
        DUE.is("19: row 1", x.barred(0, 2, 0, 1, 100, 9), 1);
        DUE.is("19: row 2", x.barred(0, 2, 0, 1, 100, 10), 2);
        DUE.is("19: no row", x.barred(0, 2, 0, 1, 100, 20), -1);
        GallopRoads y = DeckTest.bare("lift 10 if tick=99;", "lift 10 if tick=98;", "twist 500;");
        y.film(100, 0, -20, 0);
        DUE.is("19: tick 100", y.barred(0, 0, 0, 3, 20, 49), 0);
        DUE.is("19: tick 100 as told", y.barred(0, 0, 0, 3, 20, 50), -1);
        DUE.is("19: tick 99 moves twice", y.barred(1, 0, 0, 3, 20, 59), 0);
        DUE.is("19: a tick earlier it was there", y.barred(1, 0, 0, 3, 20, 60), -1);
        y.go(2, 0, 50);
        DUE.is("19: as of a trial", y.barred(0, 0, 0, 3, 20, 50), -1);
        DUE.is("19: nothing changed", y.count(2), 50);
    }

    private static void piecesThatAreNoMore() {
        GallopRoads x = DeckTest.bare("");
        x.deck(8);
        x.film(1, 7, 500, 500);
        x.film(1, 1, 50, 0);
        DUE.is("19: piece 7", x.barred(0, 0, 0, 1, 100, 10), 0);
        x.deck(7);
        DUE.is("19: no piece 7", x.barred(0, 0, 0, 1, 100, 10), 1);
        DUE.is("19: no matter", x.barred(0, 0, 0, 1, 100, 50), -1);
        x.deck(8);
        DUE.is("19: again", x.barred(0, 0, 0, 1, 100, 499), 0);
    }

    private static void wrongInputs() {
        GallopRoads x = DeckTest.bare("");
        DUE.index("19: law", () -> x.barred(1, -1, 2, 0, 0, -1));
        DUE.index("19: law -1", () -> x.barred(-1, 0, 0, 1, 1, 0));
        DUE.illegal("19: wind", () -> x.barred(0, 100, 0, 1, 1, 0));
        DUE.illegal("19: wind -1", () -> x.barred(0, -1, 0, 1, 1, 0));
        DUE.illegal("19: kind", () -> x.barred(0, 0, 2, 1, 1, 0));
        DUE.illegal("19: halves", () -> x.barred(0, 0, 0, 5, 1, 0));
        DUE.illegal("19: size 0", () -> x.barred(0, 0, 0, 1, 0, 0));
        DUE.illegal("19: size", () -> x.barred(0, 0, 0, 1, 10_000, 0));
        DUE.illegal("19: far -1", () -> x.barred(0, 0, 0, 1, 1, -1));
        DUE.illegal("19: far", () -> x.barred(0, 0, 0, 1, 1, 1_000_001));
        DUE.is("19: all at their bounds", x.barred(0, 99, 1, 4, 9999, 1_000_000), -1);
    }
}
