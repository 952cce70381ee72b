/** Promises 32 to 34: images, restoring, counts. */
public final class ImagesTest {
    private static final Due DUE = new Due();

    public static void main(String[] args) {
        howMany();
        allComesBack();
        whatStays();
        counts();
        DUE.end();
    }

    private static void howMany() {
        GallopRoads x = new GallopRoads();
        DUE.is("33: none", x.restore(), -1);
        DUE.is("32: one", x.image(), 1);
        x.set(0, 11);
        DUE.is("32: two", x.image(), 2);
        x.set(0, 12);
        DUE.is("32: three", x.image(), 3);
        x.set(0, 13);
        DUE.is("32: a fourth", x.image(), -1);
        DUE.is("32: three stay", x.count(7), 3);
        DUE.is("33: two left", x.restore(), 2);
        DUE.is("33: the latest", x.count(20), 12);
        DUE.is("33: one left", x.restore(), 1);
        DUE.is("33: the one ahead", x.count(20), 11);
        DUE.is("32: again two", x.image(), 2);
        DUE.is("33: none is lost", x.restore(), 1);
        DUE.is("33: as then", x.count(20), 11);
        DUE.is("33: none left", x.restore(), 0);
        DUE.is("33: the first", x.count(20), 4);
        DUE.is("33: no more", x.restore(), -1);
    }

    private static void allComesBack() {
        GallopRoads x = DeckTest.bare("lift 1+piece;twist 150*piece-150;", "lift height if wind>5 and holes<60 and turn=0;");
        x.set(9, 200);
        x.stay(0, false);
        x.go(0, 0, 2);
        x.film(1, 1, 7, 9);
        x.mend(6, 60, 5);
        x.bridge(20);
        x.blows(0, 9, 40);
        x.paper(3, 5, 0);
        int[] was = all(x);
        x.image();
        x.go(0, 50, 30);
        x.stay(0, true);
        x.stay(1, false);
        x.set(3, 9);
        x.film(1, 1, 1, 1);
        x.mend(3, 1, 1);
        x.bridge(1);
        x.blows(0, 9, 41);
        x.paper(0, 250, 0);
        x.deck(8);
        x.shape(0, 2, 9);
        x.film(1, 7, 0, 0);
        DUE.is("33: restore", x.restore(), 0);
        int[] is = all(x);
        for (int k = 0; k < is.length; k++) {
            DUE.is("33: thing " + k, is[k], was[k]);
        }
        DUE.is("33: a bridge anew has no hours", x.bridge(0), 1);
        DUE.is("33: none", x.hours(1), 0);
        DUE.is("33: rows go on", x.film(1, 0, 0, 0), 2);
        DUE.is("33: papers go on", x.paper(0, 0, 0), 2);
        DUE.is("33: mends go on", x.mend(0, 0, 0), 1);
        // an image is no part of what is changed later
        GallopRoads y = DeckTest.bare("lift 1;");
        y.bridge(0);
        y.image();
        y.blows(0, 0, 7);
        y.image();
        y.restore();
        DUE.is("33: hours as in the second", y.hours(0), 7);
        y.restore();
        DUE.is("33: hours as in the first", y.hours(0), 0);
    }

    private static int[] all(GallopRoads x) {
        int[] all = new int[70];
        int k = 0;
        for (int i = 0; i < 4; i++) {
            for (int what = 0; what < 6; what++) {
                all[k++] = x.piece(i, what);
            }
        }
        for (int what : new int[] {0, 2, 3, 4, 5, 6, 9, 10, 20, 21, 22, 23, 24, 25, 26, 27, 28, 29}) {
            all[k++] = x.count(what);
        }
        all[k++] = x.hours(0);
        all[k++] = x.known(999);
        all[k++] = x.could(5);
        all[k++] = x.mended(1, 5);
        all[k++] = x.mended(1, 6);
        all[k++] = x.week(1, 0);
        all[k++] = x.week(1, 1);
        all[k++] = x.barred(0, 0, 0, 1, 100, 92);
        all[k++] = x.barred(0, 0, 0, 1, 100, 95);
        all[k++] = x.first(0, 0, 1, 1, false);
        all[k++] = x.where(0, 0, 1, 1, false);
        return all;
    }

    private static void whatStays() {
        GallopRoads x = new GallopRoads();
        x.image();
        Due.law(x, "lift 5;");
        Due.law(x, "lift");
        x.feed(0, 0, 0, 0, 0);
        x.restore();
        DUE.is("33: laws stay", x.count(1), 1);
        DUE.is("33: the tape stays", x.count(8), 20);
        DUE.is("33: the fault stays", x.fault(), 4);
        DUE.is("33: the law works", x.push(0, 0, 0, false), 5);
    }

    private static void counts() {
        GallopRoads x = DeckTest.bare("twist 400*piece;");
        x.deck(5);
        x.set(9, 300);
        x.feed(0, 0, 0, 0, 0);
        x.go(0, 0, 7);
        x.film(1, 0, 0, 0);
        x.film(1, 0, 0, 0);
        x.mend(0, 0, 0);
        x.bridge(0);
        x.bridge(0);
        x.bridge(0);
        for (int k = 0; k < 6; k++) {
            x.paper(0, 0, 0);
        }
        x.image();
        x.image();
        int[] due = {5, 1, 7, 2, 1, 3, 6, 2, 20, 4, 4, -1, -1};
        for (int k = 0; k < due.length; k++) {
            DUE.is("34: count(" + k + ")", x.count(k), due[k]);
        }
        int[] numbers = {1, 0, 0, 0, 0, 8, 0, 300, 0, 300};
        for (int k = 0; k < numbers.length; k++) {
            DUE.is("34: count(" + (20 + k) + ")", x.count(20 + k), numbers[k]);
        }
        for (int what : new int[] {-1, 11, 19, 30, Integer.MIN_VALUE, Integer.MAX_VALUE}) {
            DUE.is("34: count(" + what + ")", x.count(what), -1);
        }
        x.stay(1, false);
        x.stay(2, false);
        x.stay(2, true);
        DUE.is("34: stays that slipped", x.count(9), 2);
    }
}
