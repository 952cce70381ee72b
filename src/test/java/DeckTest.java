/** Promises 5 to 11, and what the terms tell of a deck and its ticks. */
public final class DeckTest {
    private static final Due DUE = new Due();
    private static final int[] LEAST = {1, 0, 0, 0, 0, 0, 0, 0, 0, 0};
    private static final int[] MOST = {99, 99, 99, 99, 99, 99, 99, 9999, 99, 999999};

    public static void main(String[] args) {
        decks();
        numbers();
        stays();
        shapes();
        goes();
        ticksByHand();
        losses();
        twistsByHand();
        bounds();
        slips();
        tears();
        pieces();
        pushes();
        DUE.end();
    }

    /** A deck on which nothing pulls, with the laws told. */
    static GallopRoads bare(String... laws) {
        GallopRoads x = new GallopRoads();
        x.set(0, 1);
        for (int which : new int[] {1, 2, 3, 4, 8}) {
            x.set(which, 0);
        }
        for (String law : laws) {
            DUE.is("law '" + law + "' is one", Due.law(x, law) >= 0, true);
        }
        return x;
    }

    private static void decks() {
        GallopRoads x = bare("twist 400;");
        x.set(9, 1);
        x.stay(1, false);
        x.shape(1, 2, 100);
        x.go(0, 0, 3);
        DUE.is("5: slipped ahead", x.count(9), 3);
        DUE.is("5: torn ahead", x.count(10), 1);
        DUE.illegal("5: 1", () -> x.deck(1));
        DUE.illegal("5: 9", () -> x.deck(9));
        DUE.is("5: nothing happened", x.count(2), 3);
        DUE.is("5: deck(8)", x.deck(8), 4);
        DUE.is("5: deck(2)", x.deck(2), 8);
        DUE.is("5: deck(6)", x.deck(6), 2);
        DUE.is("5: pieces", x.count(0), 6);
        DUE.is("5: ticks", x.count(2), 0);
        DUE.is("5: slipped", x.count(9), 0);
        DUE.is("5: torn", x.count(10), 0);
        DUE.is("5: numbers stay", x.count(29), 1);
        for (int i = 0; i < 6; i++) {
            for (int what = 0; what < 6; what++) {
                DUE.is("5: piece " + i + " " + what, x.piece(i, what), what == 4 ? 2 : 0);
            }
        }
        DUE.missing("5: no seventh", () -> x.piece(6, 0));
    }

    private static void numbers() {
        GallopRoads x = new GallopRoads();
        int[] was = {4, 20, 10, 5, 2, 8, 0, 300, 30, 0};
        for (int which = 0; which < 10; which++) {
            int w = which;
            DUE.illegal("6: too little of " + w, () -> x.set(w, LEAST[w] - 1));
            DUE.illegal("6: too much of " + w, () -> x.set(w, MOST[w] + 1));
            DUE.is("6: set " + w, x.set(w, LEAST[w]), was[w]);
            DUE.is("6: set again " + w, x.set(w, MOST[w]), LEAST[w]);
            DUE.is("6: count " + w, x.count(20 + w), MOST[w]);
        }
        DUE.illegal("6: which -1", () -> x.set(-1, 1));
        DUE.illegal("6: which 10", () -> x.set(10, 1));
        DUE.illegal("6: far off", () -> x.set(Integer.MIN_VALUE, Integer.MAX_VALUE));
    }

    private static void stays() {
        GallopRoads x = bare("");
        DUE.is("7: it held", x.stay(3, true), 2);
        DUE.is("7: it still held", x.stay(3, false), 2);
        DUE.is("7: none", x.stay(3, false), 0);
        x.shape(1, 1, 301);
        x.go(0, 0, 1);
        DUE.is("7: three slipped", x.count(9), 3);
        DUE.is("7: slipped stays so", x.stay(0, true), 1);
        DUE.is("7: slipped still", x.stay(0, false), 1);
        DUE.is("7: gone", x.count(9), 2);
        DUE.is("7: none, gets one", x.stay(0, true), 0);
        DUE.is("7: that holds", x.piece(0, 4), 2);
        DUE.missing("7: -1", () -> x.stay(-1, true));
        DUE.missing("7: 4", () -> x.stay(4, true));
        x.deck(8);
        DUE.is("7: all have one on a new deck", x.stay(7, true), 2);
    }

    private static void row(String name, GallopRoads x, int what, int... due) {
        for (int i = 0; i < due.length; i++) {
            DUE.is(name + ", " + what + " of piece " + i, x.piece(i, what), due[i]);
        }
    }

    private static void shapes() {
        GallopRoads x = bare("twist 500;lift 3;");
        x.set(9, 5);
        x.go(0, 0, 2);
        DUE.is("8: size", x.shape(0, 1, 70), 70);
        row("8: one half", x, 0, 70, 70, 70, 70);
        row("8: turns 0", x, 1, 0, 0, 0, 0);
        row("8: ups 0", x, 2, 0, 0, 0, 0);
        row("8: spins 0", x, 3, 0, 0, 0, 0);
        row("8: slipped stay so", x, 4, 1, 1, 1, 1);
        DUE.is("8: ticks stay", x.count(2), 2);
        DUE.is("8: size 9999", x.shape(1, 2, 9999), 9999);
        row("8: two halves", x, 1, 9999, 9999, -9999, -9999);
        row("8: heights 0", x, 0, 0, 0, 0, 0);
        x.shape(0, 3, 1);
        row("8: three halves of four", x, 0, 1, 1, -1, 1);
        x.shape(0, 4, 1);
        row("8: four halves of four", x, 0, 1, -1, 1, -1);
        x.go(0, 0, 0);
        x.shape(1, 2, 3);
        x.go(0, 0, 1);
        DUE.is("8: torn", x.count(10), 1);
        x.shape(0, 2, 3);
        DUE.is("8: torn stays so", x.count(10), 1);
        x.deck(7);
        x.shape(1, 3, 5);
        row("8: three halves of seven", x, 1, 5, 5, 5, -5, -5, 5, 5);
        x.shape(1, 4, 5);
        row("8: four halves of seven", x, 1, 5, 5, -5, -5, 5, 5, -5);
        DUE.illegal("8: kind", () -> x.shape(2, 1, 1));
        DUE.illegal("8: kind below", () -> x.shape(-1, 1, 1));
        DUE.illegal("8: halves 0", () -> x.shape(0, 0, 1));
        DUE.illegal("8: halves 5", () -> x.shape(0, 5, 1));
        DUE.illegal("8: size 0", () -> x.shape(0, 1, 0));
        DUE.illegal("8: size 10000", () -> x.shape(0, 1, 10_000));
        row("8: wrong ones do nothing", x, 1, 5, 5, -5, -5, 5, 5, -5);
    }

    private static void goes() {
        GallopRoads x = bare("twist wind*(piece-2);", "lift 50;");
        DUE.is("9: no ticks", x.go(0, 5, 0), 0);
        DUE.is("9: none were", x.count(2), 0);
        DUE.is("9: without its sign", x.go(0, 5, 1), 10);
        DUE.is("9: heights are no matter", x.go(1, 99, 2), 30);
        DUE.is("9: ticks", x.count(2), 3);
        DUE.is("9: a hundred", x.go(0, 0, 100), 1030);
        DUE.is("9: ticks then", x.count(2), 103);
        DUE.index("9: law 2", () -> x.go(2, -1, -1));
        DUE.index("9: law -1", () -> x.go(-1, 0, 0));
        DUE.illegal("9: wind -1", () -> x.go(0, -1, 0));
        DUE.illegal("9: wind 100", () -> x.go(0, 100, 0));
        DUE.illegal("9: ticks -1", () -> x.go(0, 0, -1));
        DUE.illegal("9: ticks 101", () -> x.go(0, 0, 101));
        DUE.is("9: wrong ones do nothing", x.count(2), 103);
    }

    private static void ticksByHand() {
        GallopRoads x = new GallopRoads();
        Due.law(x, "lift 5;");
        x.deck(3);
        int[] numbers = {2, 7, 0, 3, 10};
        for (int k = 0; k < numbers.length; k++) {
            x.set(k, numbers[k]);
        }
        x.shape(0, 1, 100);
        x.go(0, 0, 1);
        // ends: 7*(100-200)-300 = -1000, a tenth -100, and 5 is -95, by 2 is -47; the middle: -300, -30, -25, -12
        row("9: ups", x, 2, -47, -12, -47);
        row("9: heights", x, 0, 53, 88, 53);
        x.go(0, 0, 1);
        // ends: 7*(88-106)-159 = -285, -28, -23, -11, less 10*-47/100 = -4: -47-11+4
        // the middle: 7*(106-176)-264 = -754, -75, -70, -35, less 10*-12/100 = -1: -12-35+1
        row("9: ups again", x, 2, -54, -46, -54);
        row("9: heights again", x, 0, -1, 42, -1);
        row("9: turns", x, 1, 0, 0, 0);
    }

    private static void losses() {
        GallopRoads x = DeckTest.bare("lift 9999 if tick=0;twist 1999 if tick=0;");
        x.go(0, 0, 1);
        x.set(4, 50);
        x.go(0, 0, 1);
        // 50*9999/100 is 4999 and a half
        row("9: half is lost of up", x, 2, 5000, 5000, 5000, 5000);
        row("9: half is lost of spin", x, 3, 1000, 1000, 1000, 1000);
        x.set(4, 99);
        x.go(0, 0, 1);
        row("9: 4950 are lost", x, 2, 50, 50, 50, 50);
    }

    private static void twistsByHand() {
        GallopRoads x = new GallopRoads();
        Due.law(x, "twist 5;");
        x.deck(3);
        int[] numbers = {2, 0, 7, 99, 10, 8, 0, 300, 3};
        for (int k = 0; k < numbers.length; k++) {
            x.set(k, numbers[k]);
        }
        x.stay(2, false);
        x.shape(1, 1, 100);
        x.go(0, 0, 1);
        // as heights by STIFF and HANG; piece 2 without CLAMP: -700, -70, -65, -32
        row("9: spins", x, 3, -47, -12, -32);
        row("9: turns", x, 1, 53, 88, 68);
        row("9: heights", x, 0, 0, 0, 0);
        x.set(7, 47);
        x.go(0, 0, 1);
        // piece 1: 7*(53+68-176)-264 = -649, -64, -59, -29, less -1: -40; piece 2: -336, -33, -28, -14, less -3
        row("9: both stays held as it began", x, 3, -54, -40, -43);
        row("9: turns again", x, 1, -1, 48, 25);
        row("9: what slips is told by what is behind the tick", x, 4, 2, 1, 0);
    }

    private static void bounds() {
        GallopRoads x = bare("lift 9999*20;twist 0-9999*20;");
        x.go(0, 0, 4);
        row("9: as far as it goes", x, 0, 1_000_000, 1_000_000, 1_000_000, 1_000_000);
        row("9: and the other way", x, 1, -1_000_000, -1_000_000, -1_000_000, -1_000_000);
        row("9: speed", x, 2, 400_000, 400_000, 400_000, 400_000);
        DUE.is("9: size", x.go(0, 0, 1), 1_000_000);
        row("9: no farther", x, 0, 1_000_000, 1_000_000, 1_000_000, 1_000_000);
        x.go(0, 0, 9);
        row("9: no faster", x, 2, 1_000_000, 1_000_000, 1_000_000, 1_000_000);
        row("9: nor so", x, 3, -1_000_000, -1_000_000, -1_000_000, -1_000_000);
        row("9: nor farther so", x, 1, -1_000_000, -1_000_000, -1_000_000, -1_000_000);
        // up is bounded ahead of height: -1 as up was 1,000,000 and loses 99 hundredths only of that
        GallopRoads y = bare("lift 9999*20;", "lift 0-9999*20;");
        y.go(0, 0, 20);
        y.go(1, 0, 20);
        row("9: back from the bounds", y, 2, -1_000_000, -1_000_000, -1_000_000, -1_000_000);
        row("9: back to the other end", y, 0, -1_000_000, -1_000_000, -1_000_000, -1_000_000);
        y.set(1, 99);
        y.set(3, 99);
        y.go(0, 0, 1);
        // the ends: 99*(-1000000+2000000)+99000000 = 198000000, a tenth, and 100000: 19900000, bounded
        row("9: great pulls", y, 2, 1_000_000, 1_000_000, 1_000_000, 1_000_000);
        row("9: from one end to 0", y, 0, 0, 0, 0, 0);
    }

    private static void slips() {
        GallopRoads x = bare("", "twist 1 if piece=1;twist 0-1 if piece=2;");
        x.set(7, 100);
        x.set(8, 10);
        x.shape(1, 1, 100);
        x.set(8, 0);
        x.go(0, 0, 1);
        DUE.is("9: as far as GRIP it holds", x.count(9), 0);
        x.go(1, 0, 1);
        row("9: one above slips", x, 4, 2, 1, 2, 2);
        x.shape(1, 4, 100);
        x.go(1, 0, 1);
        row("9: -100 holds, 101 slipped", x, 4, 2, 1, 2, 2);
        x.shape(1, 4, 101);
        x.go(0, 0, 1);
        row("9: below -100", x, 4, 1, 1, 1, 1);
        x.set(8, 50);
        x.shape(1, 1, 10);
        x.go(0, 0, 1);
        row("9: what slipped pulls no more", x, 1, 10, 10, 10, 10);
        x.stay(2, false);
        x.stay(2, true);
        x.go(0, 0, 1);
        row("9: a new one does", x, 1, 10, 10, -40, 10);
        x.deck(4);
        x.set(7, 0);
        x.go(1, 0, 1);
        row("9: GRIP 0, turns 1 and -1", x, 4, 2, 1, 1, 2);
    }

    private static void tears() {
        GallopRoads x = bare("");
        x.shape(1, 4, 100);
        x.go(0, 0, 1);
        DUE.is("9: STRONG 0 never tears", x.count(10), 0);
        x.set(9, 200);
        x.go(0, 0, 1);
        DUE.is("9: as far as STRONG", x.count(10), 0);
        x.set(9, 199);
        DUE.is("9: not by set", x.count(10), 0);
        x.go(0, 0, 1);
        DUE.is("9: three links", x.count(10), 3);
        row("10: torn", x, 5, 1, 1, 1, 0);
        x.deck(4);
        x.shape(1, 2, 100);
        x.go(0, 0, 1);
        row("10: the middle", x, 5, 0, 1, 0, 0);
        x.set(1, 10);
        x.set(2, 10);
        x.shape(0, 1, 100);
        x.go(0, 0, 1);
        // ends: 10*(100-200) = -1000; at the torn link a neighbour is as high as the piece: 0
        row("9: over a torn link", x, 2, -100, 0, 0, -100);
        x.shape(0, 2, 100);
        x.go(0, 0, 1);
        row("9: over it, the other side is no matter", x, 2, -100, 0, 0, 100);
        x.shape(1, 2, 100);
        x.set(9, 0);
        x.go(0, 0, 1);
        row("9: turns likewise", x, 3, -100, 0, 0, 100);
    }

    private static void pieces() {
        GallopRoads x = bare("lift 1+piece;twist 10*piece;");
        x.go(0, 0, 2);
        row("10: height", x, 0, 3, 6, 9, 12);
        row("10: turn", x, 1, 0, 30, 60, 90);
        row("10: up", x, 2, 2, 4, 6, 8);
        row("10: spin", x, 3, 0, 20, 40, 60);
        row("10: stay", x, 4, 2, 2, 2, 2);
        row("10: torn", x, 5, 0, 0, 0, 0);
        DUE.missing("10: piece 4", () -> x.piece(4, 9));
        DUE.missing("10: piece -1", () -> x.piece(-1, 0));
        DUE.illegal("10: what 6", () -> x.piece(0, 6));
        DUE.illegal("10: what -1", () -> x.piece(0, -1));
    }

    private static void pushes() {
        GallopRoads x = bare("lift 1+piece;twist 10*piece;", "lift height*1000*10+turn*1000+up*100+spin*10+tick;twist piece*100+wind;");
        x.go(0, 0, 2);
        DUE.is("11: lift", x.push(0, 0, 2, false), 3);
        DUE.is("11: twist", x.push(0, 0, 2, true), 20);
        DUE.is("11: of all names", x.push(1, 0, 0, false), 3 * 10000 + 2 * 100 + 2);
        DUE.is("11: too much", x.push(1, 0, 3, false), 100_000);
        DUE.is("11: wind", x.push(1, 99, 3, true), 399);
        x.set(5, 31);
        x.set(6, 17);
        Due.law(x, "lift side*100+holes;");
        DUE.is("11: numbers of the deck", x.push(2, 0, 0, false), 3117);
        DUE.is("11: nothing moved", x.count(2), 2);
        Due.law(x, "lift tick;twist turn*1000+spin;");
        DUE.is("11: turn and spin of piece 2", x.push(3, 0, 2, true), 60_040);
        x.go(3, 0, 1);
        DUE.is("11: tick in a tick is how many there were", x.piece(0, 2), 4);
        DUE.is("11: tick now", x.push(3, 0, 0, false), 3);
        DUE.index("11: law", () -> x.push(4, -1, -1, true));
        DUE.missing("11: piece", () -> x.push(0, -1, 4, true));
        DUE.missing("11: piece -1", () -> x.push(0, 0, -1, true));
        DUE.illegal("11: wind -1", () -> x.push(0, -1, 0, true));
        DUE.illegal("11: wind 100", () -> x.push(0, 100, 0, false));
    }
}
