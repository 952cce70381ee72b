/** Promises 1 to 4, and what the terms tell of laws. */
public final class LawsTest {
    private static final Due DUE = new Due();

    public static void main(String[] args) {
        newObject();
        feeds();
        lawNumbersAndTape();
        endsAtN();
        faultsOfKindOne();
        faultsOfKindTwo();
        faultsOfKindThree();
        whatIsAllowed();
        values();
        conditions();
        DUE.end();
    }

    private static void newObject() {
        GallopRoads x = new GallopRoads();
        int[] fresh = {4, 0, 0, 0, 0, 0, 0, 0, 0, 0, 0};
        for (int k = 0; k < fresh.length; k++) {
            DUE.is("1: count(" + k + ")", x.count(k), fresh[k]);
        }
        int[] numbers = {4, 20, 10, 5, 2, 8, 0, 300, 30, 0};
        for (int k = 0; k < numbers.length; k++) {
            DUE.is("1: number " + k, x.count(20 + k), numbers[k]);
        }
        for (int i = 0; i < 4; i++) {
            for (int what = 0; what < 6; what++) {
                DUE.is("1: piece " + i + " " + what, x.piece(i, what), what == 4 ? 2 : 0);
            }
        }
        DUE.index("1: no laws", () -> x.go(0, 0, 0));
        DUE.is("1: NONE", GallopRoads.NONE, -1);
        DUE.is("1: fault", x.fault(), -1);
    }

    private static void feeds() {
        GallopRoads x = new GallopRoads();
        for (int k = 1; k <= 15; k++) {
            DUE.is("2: feed " + k, x.feed(-1, 0, 1, 2, 3), 20 * k);
        }
        DUE.is("2: a feed too many", x.feed(1, 1, 1, 1, 1), -1);
        DUE.is("2: it did nothing", x.count(8), 300);
        GallopRoads y = new GallopRoads();
        // "lift" is 6C 69 66 74; " 17;" is 20 31 37 3B
        DUE.is("2: highest byte first", y.feed(0x6C696674, 0x2031373B, 0x6C696674, 0x2031373B, 0), 20);
        DUE.is("2: law", y.law(16), 0);
        DUE.is("2: pushes", y.push(0, 0, 0, false), 34);
        DUE.is("2: bytes above 127", y.feed(0xE9000000, 0, 0, 0, 0), 20);
        DUE.is("2: cannot stand", y.law(1), -9);
        DUE.is("2: at it", y.fault(), 0);
    }

    private static void lawNumbersAndTape() {
        GallopRoads x = new GallopRoads();
        DUE.illegal("3: below 0", () -> x.law(-1));
        DUE.illegal("3: more than there is", () -> x.law(1));
        x.feed(0x20202020, 0x20202020, 0x20202020, 0x20202020, 0x20202020);
        DUE.illegal("3: one too many", () -> x.law(21));
        DUE.is("3: the tape stays", x.count(8), 20);
        DUE.is("3: blanks alone are a law", x.law(20), 0);
        DUE.is("3: the tape is empty", x.count(8), 0);
        DUE.is("3: nothing is a law", x.law(0), 1);
        DUE.is("3: a fault makes no law", Due.law(x, "lift 1"), -9);
        DUE.is("4: fault", x.fault(), 6);
        DUE.is("3: count", x.count(1), 2);
        DUE.is("3: the tape is empty behind a fault", x.count(8), 0);
        DUE.is("3: third", Due.law(x, "lift 1;"), 2);
        DUE.is("4: none now", x.fault(), -1);
        x.feed(0x6C696674, 0x2031373B, 0x3B3B3B3B, 0, 0);
        DUE.is("3: a part of the tape", x.law(8), 3);
        DUE.is("3: the rest is gone", x.count(8), 0);
        x.feed(0x21000000, 0, 0, 0, 0);
        DUE.illegal("3: n is looked at ahead of the count", () -> x.law(21));
        DUE.is("3: a fifth, ahead of its fault", x.law(1), -1);
        DUE.is("3: the tape is empty then, too", x.count(8), 0);
        DUE.is("4: no fault of it", x.fault(), -1);
        DUE.is("3: four", x.count(1), 4);
    }

    private static void endsAtN() {
        GallopRoads x = new GallopRoads();
        x.feed(0x6C696674, 0x20393939, 0x39393B00, 0, 0);
        DUE.is("3: 'lift 9999' of 'lift 99999;'", x.law(9), -9);
        DUE.is("4: it ends too early", x.fault(), 9);
        x.feed(0x6C696674, 0x73000000, 0, 0, 0);
        DUE.is("3: 'lift' of 'lifts'", x.law(4), -9);
        DUE.is("4: it ends too early, too", x.fault(), 4);
        DUE.illegal("3: nothing on the tape", () -> x.law(1));
        DUE.is("4: what throws changes nothing", x.fault(), 4);
    }

    private static void faultsOfKindOne() {
        DUE.faulty("lifts 1;", 1, 0);
        DUE.faulty("  lifts 1;", 1, 2);
        DUE.faulty("Lift 1;", 1, 0);
        DUE.faulty("liftz 1;", 1, 0);
        DUE.faulty("alift 1;", 1, 0);
        DUE.faulty("1;", 1, 0);
        DUE.faulty(";", 1, 0);
        DUE.faulty("lift", 1, 4);
        DUE.faulty("lift  ", 1, 6);
        DUE.faulty("lift;", 1, 4);
        DUE.faulty("lift 1", 1, 6);
        DUE.faulty("lift 1  ", 1, 8);
        DUE.faulty("lift 1;x", 1, 7);
        DUE.faulty("lift 1;;", 1, 7);
        DUE.faulty("lift -1;", 1, 5);
        DUE.faulty("lift 1+;", 1, 7);
        DUE.faulty("lift 1 2;", 1, 7);
        DUE.faulty("lift 1 10000;", 1, 7);
        DUE.faulty("lift 1 (((((((", 1, 7);
        DUE.faulty("lift 12up;", 1, 7);
        DUE.faulty("lift ups;", 1, 5);
        DUE.faulty("lift upif 1=1;", 1, 5);
        DUE.faulty("lift lift;", 1, 5);
        DUE.faulty("lift (1;", 1, 7);
        DUE.faulty("lift 1);", 1, 6);
        DUE.faulty("lift ();", 1, 6);
        DUE.faulty("lift sign 3;", 1, 10);
        DUE.faulty("lift sign(1,2);", 1, 11);
        DUE.faulty("lift least(1);", 1, 12);
        DUE.faulty("lift least(1,2,3);", 1, 14);
        DUE.faulty("lift most(1 2);", 1, 12);
        DUE.faulty("lift [1];", 1, 5);
        DUE.faulty("lift 1 < 2;", 1, 7);
        DUE.faulty("lift 1 and 1;", 1, 7);
        DUE.faulty("lift 1 if;", 1, 9);
        DUE.faulty("lift 1 if ", 1, 10);
        DUE.faulty("lift 1 if up;", 1, 12);
        DUE.faulty("lift 1 if up<=1;", 1, 13);
        DUE.faulty("lift 1 if up<1>2;", 1, 14);
        DUE.faulty("lift 1 if (up<1);", 1, 13);
        DUE.faulty("lift 1 if [up<1;", 1, 15);
        DUE.faulty("lift 1 if up<1];", 1, 14);
        DUE.faulty("lift 1 if not;", 1, 13);
        DUE.faulty("lift 1 if up<1 not up>1;", 1, 15);
        DUE.faulty("lift 1 if up<1 or;", 1, 17);
        DUE.faulty("lift 1 if up<1 if up>1;", 1, 15);
        DUE.faulty("lift\t1;", 1, 4);
        DUE.faulty("lift 1;\n", 1, 7);
        DUE.faulty("lift 1\u0000;", 1, 6);
        DUE.faulty("lift \u00ff;", 1, 5);
        DUE.faulty(Due.times("lift 1;", 12) + "else", 1, 84);
    }

    private static void faultsOfKindTwo() {
        DUE.faulty("lift 10000;", 2, 5);
        DUE.faulty("lift 1+(up*  010000);", 2, 13);
        DUE.faulty("lift 99999999999999999999999999;", 2, 5);
        DUE.faulty("lift 4294967297;", 2, 5);
        DUE.faulty("lift 1 if 2<10001;", 2, 12);
    }

    private static void faultsOfKindThree() {
        DUE.faulty(Due.times("lift 1;", 13), 3, 84);
        DUE.faulty(Due.times("lift 1;", 12) + "  twist nonsense", 3, 86);
        DUE.faulty("lift (((((((1)))))));", 3, 11);
        DUE.faulty("lift ((((((sign(1)))))));", 3, 15);
        DUE.faulty("lift ((((((least (1,2)))))));", 3, 17);
        DUE.faulty("lift 1 if " + Due.times("not ", 7) + "1=1;", 3, 34);
        DUE.faulty("lift 1 if [[[[[[[1=1]]]]]]];", 3, 16);
        DUE.faulty("lift least(1,((((((1)))))));", 3, 18);
        DUE.faulty("lift 1 if not [not [not [(1)=1]]];", 3, 25);
        DUE.faulty("lift 1 if not [not [not [1=(1)]]];", 3, 27);
        DUE.faulty("lift 1 if [[[not not not (1)=1]]];", 3, 25);
    }

    private static void whatIsAllowed() {
        DUE.lawful("lift 9999;");
        DUE.lawful("lift 0000000000000000000009999;");
        DUE.lawful("lift1;twist2if1=1;");
        DUE.lawful("  lift  1  ;  twist ( 2 ) if  [ 1 = 1 ]  ;  ");
        DUE.lawful(Due.times("lift 1;", 12) + "   ");
        DUE.lawful("lift ((((((1))))))+((((((1))))));");
        DUE.lawful("lift 1 if [[[[[[1=1]]]]]] and [[[[[[1=1]]]]]];");
        DUE.lawful("lift 1 if " + Due.times("not ", 6) + "1=1 and " + Due.times("not ", 6) + "1=1;");
        DUE.lawful("lift 1 if not not not [[[1=1]]] or not [not [not [1=1]]] and ((((((1))))))=1;");
        DUE.lawful("lift 1 if not 1=1 and not 1=1 and not 1=1 and not 1=1 and not 1=1 and not 1=1 and not (1)=1;");
        DUE.lawful("lift least(most(sign(1),2),least(3,4));");
        DUE.lawful("lift 1 if 1<2 and 2>1 or 3=3;");
        DUE.lawful("lift " + Due.times("1+", 145) + "1  ; ");
    }

    private static void values() {
        DUE.lifts("", 0);
        DUE.lifts("twist 5;", 0);
        DUE.lifts("lift 1+2*3-4/2;", 5);
        DUE.lifts("lift 10-3-2;", 5);
        DUE.lifts("lift 100/7*7;", 98);
        DUE.lifts("lift 100/(7*7);", 2);
        DUE.lifts("lift (1+2)*3;", 9);
        DUE.lifts("lift (0-7)/2;", -3);
        DUE.lifts("lift 7/(0-2);", -3);
        DUE.lifts("lift 7/0;", 0);
        DUE.lifts("lift 5+7/(wind-7);", 5);
        DUE.lifts("lift sign(9)*100+sign(0)*10+sign(0-9);", 99);
        DUE.lifts("lift sign(1)*10-sign(0-1);", 11);
        DUE.lifts("lift least(3,4)*10+least(4,3);", 33);
        DUE.lifts("lift most(3,4)*10+most(4,0-3);", 44);
        DUE.lifts("lift 3;twist 1000;lift 4;", 7);
        DUE.lifts("lift 9999*10;", 99_990);
        DUE.lifts("lift 9999*10+10;", 100_000);
        DUE.lifts("lift 9999*10+11;", 100_000);
        DUE.lifts("lift 0-9999*10-11;", -100_000);
        DUE.lifts("lift 9999*10;lift 9999*10;lift 0-9999*10;", 99_990);
        // 2^31 wraps to the least int; that by -1 is itself again
        DUE.lifts("lift 8192*8192*32;", -100_000);
        DUE.lifts("lift 8192*8192*32/(0-1);", -100_000);
        DUE.lifts("lift 8192*8192*64+3;", 3);
        DUE.lifts("lift 8192*8192*32;lift 8192*8192*32;lift 5;", 5);
        DUE.lifts("lift wind;", 7);
        DUE.lifts("lift side;", 8);
        DUE.lifts("lift holes+1;", 1);
        DUE.lifts("lift 00012;", 12);
    }

    private static void holds(String condition, boolean is) {
        DUE.lifts("lift 2;lift 40 if " + condition + ";", is ? 42 : 2);
    }

    private static void conditions() {
        holds("1<2", true);
        holds("2<2", false);
        holds("2>1", true);
        holds("2>2", false);
        holds("2=2", true);
        holds("1=2", false);
        holds("0-5<0-4", true);
        holds("1+1=2*1", true);
        holds("1=1 or 1=2 and 1=2", true);
        holds("[1=1 or 1=2] and 1=2", false);
        holds("not 1=1 or 1=1", true);
        holds("not [1=1 or 1=1]", false);
        holds("not 1=2 and 1=1", true);
        holds("not not 1=1", true);
        holds("1=2 or 1=2 or 1=1", true);
        holds("1=1 and 1=1 and 1=2", false);
        holds("1/0=0", true);
    }
}
