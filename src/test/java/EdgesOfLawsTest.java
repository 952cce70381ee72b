/** Laws, the tape and faults at their bounds: each method holds one sentence of the document. */
public final class EdgesOfLawsTest {
    private static final Due DUE = new Due();
    private static final String NAMES = "wind tick height turn up spin side holes piece";
    private static final String LEAST_INT = "(8192*8192*32)";
    private static final String MOST_INT = "(8192*8192*32-1)";

    public static void main(String[] args) {
        tapeTakesUpTo300();
        everyByteOfAFeed();
        lawTakesFrom0ToTheTape();
        fourLawsAtMost();
        textsOfUpTo300Bytes();
        numbersUpTo9999();
        wordsAreAsManyLettersAsStandThere();
        blanksAre32Alone();
        everyByteWhereItCanOrCantStand();
        textsThatEndTooEarly();
        twelveClausesAtMost();
        sixOpenAtMost();
        notIsOpenTillItsBEnds();
        ofOnePlaceTheLeast();
        theFirstFromTheLeft();
        faultOfTheLatestLaw();
        valuesWrap();
        divisions();
        comparisonsAtTheEnds();
        leastMostAndSign();
        toldHasBounds();
        DUE.end();
    }

    private static int feed(GallopRoads x, String text, int k) {
        int[] f = Due.fed(text, k);
        return x.feed(f[0], f[1], f[2], f[3], f[4]);
    }

    /** Promise 2: "NONE, doing nothing, if there would be more than 300." */
    private static void tapeTakesUpTo300() {
        GallopRoads x = new GallopRoads();
        String text = Due.times(" ", 280) + "lift 1234+5678*wind;";
        for (int k = 0; k < 15; k++) {
            DUE.is("2: feed " + k, feed(x, text, k), 20 * k + 20);
            DUE.is("2: count behind feed " + k, x.count(8), 20 * k + 20);
        }
        for (int k = 0; k < 3; k++) {
            DUE.is("2: no 320th byte", x.feed(-1, -1, -1, -1, -1), -1);
            DUE.is("2: it did nothing", x.count(8), 300);
        }
        DUE.is("2: the bytes are as they were", x.law(300), 0);
        DUE.is("2: all of them", x.push(0, 1, 0, false), 1234 + 5678);
        for (int k = 0; k < 15; k++) {
            DUE.is("2: an empty tape takes 300 again", feed(x, text, k), 20 * k + 20);
        }
        DUE.is("2: and no more", x.feed(0, 0, 0, 0, 0), -1);
    }

    /** Promise 2: "of each number the highest first". */
    private static void everyByteOfAFeed() {
        String text = "lift 1234+5678*wind;";
        for (int k = 0; k < 20; k++) {
            GallopRoads x = new GallopRoads();
            char[] signs = text.toCharArray();
            signs[k] = (char) (k % 2 == 0 ? 255 : 128);
            feed(x, new String(signs), 0);
            DUE.is("2: byte " + k + " is no sign of laws", x.law(20), -9);
            // a word that is spoilt is none from its first letter on
            DUE.is("2: where byte " + k + " is", x.fault(), k < 4 ? 0 : k > 14 && k < 19 ? 15 : k);
        }
    }

    /** Promise 3: "n is not 0 to the TAPE's bytes (it stays)." */
    private static void lawTakesFrom0ToTheTape() {
        GallopRoads x = new GallopRoads();
        for (int n : new int[] {-1, 1, 20, 300, Integer.MIN_VALUE, Integer.MAX_VALUE}) {
            DUE.illegal("3: n " + n + " of an empty tape", () -> x.law(n));
        }
        DUE.is("3: n 0 of an empty tape", x.law(0), 0);
        feed(x, "lift 5;twist 6;lift ", 0);
        for (int n : new int[] {-1, 21, 300, Integer.MIN_VALUE, Integer.MAX_VALUE}) {
            DUE.illegal("3: n " + n + " of 20", () -> x.law(n));
            DUE.is("3: the tape stays", x.count(8), 20);
            DUE.is("3: no law more", x.count(1), 1);
        }
        DUE.is("3: its bytes stay", x.law(15), 1);
        DUE.is("3: lift", x.push(1, 0, 0, false), 5);
        DUE.is("3: twist", x.push(1, 0, 0, true), 6);
        DUE.is("3: what was behind n is gone", x.count(8), 0);
        DUE.illegal("3: nothing is left", () -> x.law(1));
        feed(x, "lift 5;twist 6;lift ", 0);
        DUE.is("3: n 0 of 20", x.law(0), 2);
        DUE.is("3: the tape is empty then, too", x.count(8), 0);
        DUE.is("3: nothing is told by it", x.push(2, 0, 0, false), 0);
        feed(x, "twist 7;lift 8;     ", 0);
        DUE.is("3: n 20 of 20", x.law(20), 3);
        DUE.is("3: the last law", x.push(3, 0, 0, false), 8);
    }

    /** "LAWS, numbered from 0 on, 4 at most"; "-1: there are 4 (ahead of a FAULT; the TAPE is empty then, too)". */
    private static void fourLawsAtMost() {
        GallopRoads x = new GallopRoads();
        for (int k = 0; k < 4; k++) {
            DUE.is("3: a fault is no law", Due.law(x, "lift 10000;"), -8);
            DUE.index("9: no law " + k + " yet", () -> x.go(x.count(1), 0, 0));
            DUE.is("3: law " + k, Due.law(x, "lift " + k + ";"), k);
        }
        DUE.is("3: a fifth", Due.law(x, "lift 9;"), -1);
        DUE.is("3: ahead of fault 1", Due.law(x, "nonsense"), -1);
        DUE.is("3: ahead of fault 2", Due.law(x, "lift 10000;"), -1);
        DUE.is("3: ahead of fault 3", Due.law(x, "lift (((((((1)))))));"), -1);
        DUE.is("4: there was no fault", x.fault(), -1);
        feed(x, "lift 9;", 0);
        DUE.illegal("3: n is looked at then, too", () -> x.law(21));
        DUE.illegal("3: and below 0", () -> x.law(-1));
        DUE.is("3: the tape stays then", x.count(8), 20);
        DUE.is("3: a fifth of no bytes", x.law(0), -1);
        DUE.is("3: the tape is empty then, too", x.count(8), 0);
        DUE.is("3: four", x.count(1), 4);
        for (int k = 0; k < 4; k++) {
            DUE.is("3: law " + k + " stays", x.push(k, 0, 0, false), k);
        }
        DUE.index("9: no law 4", () -> x.go(4, 0, 0));
        DUE.index("9: no law -1", () -> x.go(-1, 0, 0));
    }

    /** "texts of up to 300 bytes". */
    private static void textsOfUpTo300Bytes() {
        DUE.lifts(Due.times(" ", 300), 0);
        DUE.lifts(Due.times(" ", 293) + "lift 1;", 1);
        DUE.lifts("lift 1;" + Due.times(" ", 293), 1);
        DUE.lifts("lift " + Due.times("0", 293) + "7;", 7);
        DUE.lifts("lift 1" + Due.times("+1", 146) + " ;", 147);
        DUE.lifts("lift 7" + Due.times("-0", 146) + " ;", 7);
        DUE.lifts("lift 3 if 1=1" + Due.times(" and 1=1", 35) + "      ;", 3);
        DUE.lifts("lift 3 if 1=2" + Due.times("  or 1=2", 34) + "  or 1=1      ;", 3);
        DUE.faulty("lift " + Due.times("0", 295), 1, 300);
        DUE.faulty("lift " + Due.times("1", 294) + ";", 2, 5);
        DUE.faulty("lift 1" + Due.times("+1", 147), 1, 300);
        DUE.faulty("lift 1;" + Due.times(" ", 292) + "x", 1, 299);
        DUE.faulty("lift 1;" + Due.times(" ", 289) + "lift", 1, 300);
        DUE.faulty("lift 1+" + Due.times(" ", 288) + "10000", 2, 295);
        DUE.faulty(Due.times("x", 300), 1, 0);
        DUE.faulty(Due.times("(", 300), 1, 0);
        DUE.faulty("lift " + Due.times("(", 295), 3, 11);
        DUE.faulty("lift 1 if " + Due.times("[", 290), 3, 16);
        DUE.faulty("lift 1 if " + Due.times("not ", 72) + "  ", 3, 34);
        DUE.faulty(Due.times("\u0000", 300), 1, 0);
    }

    /** "N (0 to 9,999)", "N: digits, as many as stand there", "2 an N above 9,999". */
    private static void numbersUpTo9999() {
        DUE.lifts("lift 0;", 0);
        DUE.lifts("lift 9998;", 9998);
        DUE.lifts("lift 9999;", 9999);
        DUE.faulty("lift 10000;", 2, 5);
        DUE.faulty("lift 10001;", 2, 5);
        DUE.lifts("lift 000009999;", 9999);
        DUE.faulty("lift 0000010000;", 2, 5);
        DUE.lifts("lift 0000;", 0);
        // that of 32 bits would be 0, 9999, -1; of 64 bits 0 and 1
        for (String n : new String[] {"4294967296", "4294977295", "4294967295", "2147483648", "18446744073709551616",
            "18446744073709551617", "99999", "100000"}) {
            DUE.faulty("lift " + n + ";", 2, 5);
            DUE.faulty("twist wind  * " + n + ";", 2, 14);
            DUE.faulty("lift 1 if up<" + n + ";", 2, 13);
            DUE.faulty("lift least(1," + n + ");", 2, 13);
        }
        DUE.faulty("lift 9999 9;", 1, 10);
        DUE.faulty("lift 99 99;", 1, 8);
    }

    /** "WORDS: small letters, as many as stand there". */
    private static void wordsAreAsManyLettersAsStandThere() {
        for (String name : NAMES.split(" ")) {
            DUE.lawful("lift " + name + ";");
            DUE.lawful("lift 1+" + name + "*2;");
            DUE.faulty("lift " + name + "s;", 1, 5);
            DUE.faulty("lift 1+x" + name + ";", 1, 7);
            DUE.faulty("lift  " + name.substring(0, name.length() - 1) + ";", 1, 6);
            DUE.faulty("lift " + name + name + ";", 1, 5);
            DUE.faulty("lift " + name.toUpperCase() + ";", 1, 5);
            DUE.faulty("lift " + name + "9;", 1, 5 + name.length());
            DUE.faulty(name + " 1;", 1, 0);
        }
        for (String word : "lift twist if and or not".split(" ")) {
            DUE.faulty("lift " + word + ";", 1, 5);
        }
        for (String word : new String[] {"lif", "lifts", "twis", "twists", "Lift", "lIFT", "lifttwist", "if", "least", "sign"}) {
            DUE.faulty(word + " 1;", 1, 0);
            DUE.faulty("lift 1; " + word + " 1;", 1, 8);
        }
        for (String word : new String[] {"i", "iff", "If", "ifnot", "ifup", "or", "and", "not"}) {
            DUE.faulty("lift 1 " + word + " 1=1;", 1, 7);
        }
        for (String word : new String[] {"o", "ors", "an", "ands", "And", "andnot", "not", "if"}) {
            DUE.faulty("lift 1 if 1=1 " + word + " 1=1;", 1, 14);
        }
        for (String word : new String[] {"no", "nots", "Not", "notnot", "if", "and", "or"}) {
            DUE.faulty("lift 1 if " + word + " 1=1;", 1, 10);
        }
        for (String word : new String[] {"leas", "leasts", "mos", "mosts", "max", "min", "Least"}) {
            DUE.faulty("lift " + word + "(1,2);", 1, 5);
        }
        for (String word : new String[] {"sig", "signs", "sin", "Sign"}) {
            DUE.faulty("lift " + word + "(1);", 1, 5);
        }
        for (String word : new String[] {"least", "most", "sign"}) {
            int end = 5 + word.length();
            for (String behind : new String[] {";", "+1;", "*2;", " if 1=1;", ",1;", ")", "[1]", "9", "wind", ""}) {
                DUE.faulty("lift " + word + behind, 1, behind.startsWith(" ") ? end + 1 : behind.equals("wind") ? 5 : end);
            }
            DUE.faulty("lift 1 if " + word + "<1;", 1, 10 + word.length());
            DUE.faulty("lift " + word + "();", 1, end + 1);
        }
        DUE.lawful("lift 1if 1=1and 1=1or 1=1;");
        DUE.lawful("lift(1);twist(1)if[1=1]and not[1=2];");
        DUE.faulty("li ft 1;", 1, 0);
        DUE.faulty("lift w ind;", 1, 5);
    }

    /** "blanks (32) may stand ahead of all these, and at the end". */
    private static void blanksAre32Alone() {
        String[] parts = {"lift", "least", "(", "most", "(", "wind", ",", "2", ")", "+", "1", ",", "3", "*", "sign", "(", "up",
            ")", ")", "if", "not", "[", "1", "<", "2", "or", "up", ">", "3", "and", "4", "=", "tick", "]", ";"};
        StringBuilder wide = new StringBuilder();
        for (String part : parts) {
            wide.append("  ").append(part);
        }
        DUE.lawful(wide.append("   ").toString());
        for (int sign : new int[] {0, 9, 10, 11, 12, 13, 31, 33, 127, 128, 160, 255}) {
            DUE.faulty((char) sign + "lift 1;", 1, 0);
            DUE.faulty("lift" + (char) sign + "1;", 1, 4);
            DUE.faulty("lift 1" + (char) sign + ";", 1, 6);
            DUE.faulty("lift 1;" + (char) sign, 1, 7);
            DUE.faulty("  lift 1;  " + (char) sign, 1, 11);
        }
    }

    /** "1 what can't stand there": every byte in three places. */
    private static void everyByteWhereItCanOrCantStand() {
        for (int b = 0; b < 256; b++) {
            char sign = (char) b;
            boolean digit = sign >= '0' && sign <= '9';
            boolean letter = sign >= 'a' && sign <= 'z';
            String joins = "+-*/;";
            if (sign == ' ') {
                DUE.lawful(sign + "lift 1;");
            } else {
                DUE.faulty(sign + "lift 1;", 1, 0);
            }
            if (sign == ' ' || digit) {
                DUE.lawful("lift 1" + sign + ";");
            } else {
                DUE.faulty("lift 1" + sign + ";", 1, joins.indexOf(sign) >= 0 ? 7 : 6);
            }
            String condition = "lift 1 if up" + sign + "1;";
            if (sign == '<' || sign == '>' || sign == '=') {
                DUE.lawful(condition);
            } else if (letter) {
                DUE.faulty(condition, 1, 10);
            } else if (sign != ';' && joins.indexOf(sign) >= 0) {
                DUE.faulty(condition, 1, 14);
            } else {
                DUE.faulty(condition, 1, sign == ' ' ? 13 : 12);
            }
        }
    }

    /** "at the length, if the text ends too early": a text cut behind each of its bytes. */
    private static void textsThatEndTooEarly() {
        String text = "lift least(wind,9)*2 if not [up<1 or sign(spin)=0];  twist 1+22/(3-1) ;  ";
        for (int n = 0; n <= text.length(); n++) {
            String cut = text.substring(0, n);
            boolean whole = cut.trim().isEmpty() || cut.trim().endsWith(";");
            boolean inWord = n > 0 && n < text.length() && Character.isLetter(text.charAt(n - 1))
                && Character.isLetter(text.charAt(n));
            int start = n;
            while (inWord && start > 0 && Character.isLetter(text.charAt(start - 1))) {
                start--;
            }
            if (whole) {
                DUE.lawful(cut);
            } else {
                DUE.faulty(cut, 1, start);
            }
        }
        DUE.faulty("lift", 1, 4);
        DUE.faulty("lift   ", 1, 7);
        DUE.faulty("lift 1 if 1", 1, 11);
        DUE.faulty("lift 1 if 1=", 1, 12);
        DUE.faulty("lift (((((( ", 1, 12);
        DUE.faulty("lift 9999", 1, 9);
        DUE.faulty(Due.times("lift 1;", 11) + "lift 1", 1, 83);
    }

    /** "At most 12 CLAUSES", "3 a 13th CLAUSE". */
    private static void twelveClausesAtMost() {
        DUE.lifts(Due.times("lift 1;", 12), 12);
        DUE.lifts(Due.times("lift 1;", 12) + "  ", 12);
        DUE.faulty(Due.times("lift 1;", 13), 3, 84);
        DUE.faulty(Due.times("lift 1;", 12) + "  twist 1;", 3, 86);
        DUE.faulty(Due.times("lift 1;", 12) + "lift", 3, 84);
        DUE.faulty(Due.times("twist 1;", 12) + "lift 10000;", 3, 96);
        DUE.faulty(Due.times("lift 1;", 20), 3, 84);
        GallopRoads x = new GallopRoads();
        DUE.is("3: six and six", Due.law(x, Due.times("lift 1;twist 2 if 1=1;", 6)), 0);
        DUE.is("3: twelve all count, lift", x.push(0, 0, 0, false), 6);
        DUE.is("3: twelve all count, twist", x.push(0, 0, 0, true), 12);
    }

    /** "a 7th of ( [ and not that is open at one time". */
    private static void sixOpenAtMost() {
        DUE.lifts("lift ((((((5))))));", 5);
        DUE.faulty("lift (((((((5)))))));", 3, 11);
        DUE.lifts("lift ((((((5))))))*((((((2))))));", 10);
        DUE.faulty("lift ((((((5))))))*(((((((2)))))));", 3, 25);
        DUE.lifts("lift (((((sign(5))))));", 1);
        DUE.faulty("lift ((((((sign(5)))))));", 3, 15);
        DUE.lifts("lift least(least(least(least(least(least(9,8),7),6),5),4),3);", 3);
        DUE.faulty("lift least(least(least(least(least(least(most(9,8),8),7),6),5),4),3);", 3, 45);
        DUE.lifts("lift least(1,(((((2))))));", 1);
        DUE.faulty("lift least(1,((((((2)))))));", 3, 18);
        DUE.lawful("lift 1 if [[[[[[1=1]]]]]];");
        DUE.faulty("lift 1 if [[[[[[[1=1]]]]]]];", 3, 16);
        DUE.lawful("lift 1 if [[[[[[1=1]]]]]] or [[[[[[1=1]]]]]];");
        DUE.lawful("lift 1 if [[[(((1)))=1]]];");
        DUE.faulty("lift 1 if [[[((((1))))=1]]];", 3, 16);
        DUE.faulty("lift 1 if [[[1=((((1))))]]];", 3, 18);
        DUE.lawful("lift ((((((1)))))) if [[[[[[1=1]]]]]];");
        DUE.lawful("lift ((((((1))))));lift ((((((1))))));");
    }

    /** "(a not till its B ends)". */
    private static void notIsOpenTillItsBEnds() {
        DUE.lawful("lift 1 if not not not not not not 1=1;");
        DUE.faulty("lift 1 if not not not not not not not 1=1;", 3, 34);
        DUE.lawful("lift 1 if not not not not not (1)=1;");
        DUE.faulty("lift 1 if not not not not not not (1)=1;", 3, 34);
        DUE.faulty("lift 1 if not not not not not not 1=(1);", 3, 36);
        DUE.faulty("lift 1 if not not not not not not 1+1=1*sign(1);", 3, 44);
        DUE.lawful("lift 1 if not not not not not [1=1];");
        DUE.faulty("lift 1 if not not not not not not [1=1];", 3, 34);
        DUE.lawful("lift 1 if not not not not not not 1=1 and (1)=1;");
        DUE.lawful("lift 1 if not not not not not not 1=1 or not not not not not not 1=1;");
        DUE.lawful("lift 1 if not [not [not [1=1]] and [[[[1=1]]]]];");
        DUE.faulty("lift 1 if not [not [not [1=1] and [[[1=1]]]]];", 3, 36);
        DUE.lawful("lift 1 if " + Due.times("not 1=2 and ", 12) + "((((((1))))))=1;");
    }

    /** "of one the least": what can't stand there is told ahead of what is too great or too many. */
    private static void ofOnePlaceTheLeast() {
        DUE.faulty(Due.times("lift 1;", 12) + "10000", 1, 84);
        DUE.faulty(Due.times("lift 1;", 12) + "lifts 1;", 1, 84);
        DUE.faulty(Due.times("lift 1;", 12) + ";", 1, 84);
        DUE.faulty("10000", 1, 0);
        DUE.faulty("lift 1 10000;", 1, 7);
        DUE.faulty("lift ((((((1(", 1, 12);
        DUE.faulty("lift ((((((1[", 1, 12);
        DUE.faulty("lift ((((((not", 1, 11);
        DUE.faulty("lift 1 if [[[[[[1=1[", 1, 19);
        DUE.faulty("lift 1 if [[[[[[1=1 not", 1, 20);
        DUE.faulty("lift ((((((least 1", 1, 17);
        DUE.faulty("lift ((((((sign", 1, 15);
        DUE.faulty("lift ((((((10000", 2, 11);
    }

    /** "the first from the left, at its first byte". */
    private static void theFirstFromTheLeft() {
        DUE.faulty("lift 10000 nonsense", 2, 5);
        DUE.faulty("lift nonsense 10000;", 1, 5);
        DUE.faulty("lift 10000+(((((((1", 2, 5);
        DUE.faulty("lift (((((((10000", 3, 11);
        DUE.faulty("lift (((((((nonsense", 3, 11);
        DUE.faulty("lift 10000;" + Due.times("lift 1;", 13), 2, 5);
        DUE.faulty(Due.times("lift 1;", 11) + "lift 10000;lift 1;", 2, 82);
        DUE.faulty("lift 1;lift 1;;lift 10000;", 1, 14);
        DUE.faulty("lift   nonsense", 1, 7);
        DUE.faulty("lift   10000", 2, 7);
        DUE.faulty("lift 1 if   [[[[[[   [1=1", 3, 21);
    }

    /** Promise 4: "The place of the FAULT of the latest law(); NONE without." */
    private static void faultOfTheLatestLaw() {
        GallopRoads x = new GallopRoads();
        DUE.is("4: no law() yet", x.fault(), -1);
        Due.law(x, "x");
        DUE.is("4: the first byte", x.fault(), 0);
        x.feed(0, 0, 0, 0, 0);
        DUE.is("4: a feed is no law()", x.fault(), 0);
        DUE.is("4: asking changes nothing", x.fault(), 0);
        x.law(0);
        DUE.is("4: none behind a law", x.fault(), -1);
        Due.law(x, "lift " + Due.times("0", 295));
        DUE.is("4: at most 300", x.fault(), 300);
        Due.law(x, "lift 10000;");
        DUE.is("4: the latest", x.fault(), 5);
        x.law(0);
        x.law(0);
        DUE.is("4: none, though the one but two had", x.fault(), -1);
        Due.law(x, "lift;");
        DUE.is("4: once more", x.fault(), 4);
        x.law(0);
        Due.law(x, "lift;");
        DUE.is("4: a fifth has none", x.fault(), -1);
    }

    /** "VALUES are whole numbers of 32 bits that wrap"; the VALUES of CLAUSES "together (they wrap)". */
    private static void valuesWrap() {
        DUE.lifts("lift " + MOST_INT + ";", 100_000);
        DUE.lifts("lift " + MOST_INT + "+1;", -100_000);
        DUE.lifts("lift " + MOST_INT + "+1+" + MOST_INT + ";", -1);
        DUE.lifts("lift " + LEAST_INT + ";", -100_000);
        DUE.lifts("lift " + LEAST_INT + "-1;", 100_000);
        DUE.lifts("lift 0-" + LEAST_INT + ";", -100_000);
        DUE.lifts("lift " + LEAST_INT + "+" + LEAST_INT + "+17;", 17);
        DUE.lifts("lift 8192*8192*64+3;", 3);
        DUE.lifts("lift 8192*8192*63/8192/8192;", -1);
        DUE.lifts("lift " + MOST_INT + "*2;", -2);
        DUE.lifts("lift " + MOST_INT + "*" + MOST_INT + ";", 1);
        DUE.lifts("lift " + MOST_INT + ";lift 1;", -100_000);
        DUE.lifts("lift " + LEAST_INT + ";lift 0-1;", 100_000);
        DUE.lifts("lift " + MOST_INT + ";lift " + MOST_INT + ";lift 9;", 7);
        DUE.lifts("lift " + LEAST_INT + ";lift " + LEAST_INT + ";lift 5;", 5);
    }

    /** "/ cuts, by 0 it is 0". */
    private static void divisions() {
        DUE.lifts("lift 7/2;", 3);
        DUE.lifts("lift (0-7)/2;", -3);
        DUE.lifts("lift 7/(0-2);", -3);
        DUE.lifts("lift (0-7)/(0-2);", 3);
        DUE.lifts("lift 1/2;", 0);
        DUE.lifts("lift (0-1)/2;", 0);
        DUE.lifts("lift 6/2;", 3);
        DUE.lifts("lift 0/5;", 0);
        DUE.lifts("lift 7/0+3;", 3);
        DUE.lifts("lift (0-7)/0;", 0);
        DUE.lifts("lift 0/0;", 0);
        DUE.lifts("lift 9/(wind-7);", 0);
        DUE.lifts("lift 9/(wind-8);", -9);
        DUE.lifts("lift " + LEAST_INT + "/0;", 0);
        DUE.lifts("lift " + LEAST_INT + "/(0-1);", -100_000);
        DUE.lifts("lift " + LEAST_INT + "/(0-1)/(0-1);", -100_000);
        DUE.lifts("lift " + LEAST_INT + "/(0-1)/8192/8192;", -32);
        DUE.lifts("lift 1 if 1/0=0 or 1/0=1;", 1);
        DUE.lifts("lift 1 if 1=2 and 1/0=0;", 0);
    }

    /** "R: <, > or =", of VALUES of 32 bits: what lies farther apart than 32 bits tell is no matter. */
    private static void comparisonsAtTheEnds() {
        String[] rising = {LEAST_INT, "0-1", "0", "1", MOST_INT};
        for (int i = 0; i < rising.length; i++) {
            for (int j = 0; j < rising.length; j++) {
                DUE.lifts("lift 1 if " + rising[i] + "<" + rising[j] + ";", i < j ? 1 : 0);
                DUE.lifts("lift 1 if " + rising[i] + ">" + rising[j] + ";", i > j ? 1 : 0);
                DUE.lifts("lift 1 if " + rising[i] + "=" + rising[j] + ";", i == j ? 1 : 0);
            }
        }
    }

    /** "least", "most", and "sign" "(1, 0, -1)". */
    private static void leastMostAndSign() {
        DUE.lifts("lift sign(0)+5;", 5);
        DUE.lifts("lift sign(1);", 1);
        DUE.lifts("lift sign(0-1);", -1);
        DUE.lifts("lift sign(" + MOST_INT + ");", 1);
        DUE.lifts("lift sign(" + LEAST_INT + ");", -1);
        DUE.lifts("lift sign(" + MOST_INT + "+1);", -1);
        DUE.lifts("lift least(4,4);", 4);
        DUE.lifts("lift most(4,4);", 4);
        DUE.lifts("lift least(0-1,1);", -1);
        DUE.lifts("lift most(0-1,1);", 1);
        DUE.lifts("lift least(" + LEAST_INT + "," + MOST_INT + ")/8192/8192;", -32);
        DUE.lifts("lift most(" + LEAST_INT + "," + MOST_INT + ")/8192/8192;", 31);
    }

    /** "-100,000 at least, 100,000 at most", of lift and of twist, and of all CLAUSES together. */
    private static void toldHasBounds() {
        int[] due = {99_999, 100_000, 100_000, 100_000};
        String[] texts = {"9999*10+9", "9999*10+10", "9999*10+11", "9999*15+15"};
        for (int k = 0; k < due.length; k++) {
            String text = texts[k];
            DUE.lifts("lift " + text + ";", due[k]);
            DUE.lifts("lift 0-(" + text + ");", -due[k]);
            GallopRoads x = new GallopRoads();
            Due.law(x, "twist " + text + ";");
            Due.law(x, "twist 0-(" + text + ");lift 3;");
            DUE.is("11: twist " + text, x.push(0, 0, 0, true), due[k]);
            DUE.is("11: no lift", x.push(0, 0, 0, false), 0);
            DUE.is("11: less " + text, x.push(1, 0, 0, true), -due[k]);
            DUE.is("11: lift apart", x.push(1, 0, 0, false), 3);
        }
        DUE.lifts("lift 9999*20;lift 0-9999*19;", 9999);
        DUE.lifts("lift 9999*9;lift 9999*9 if 1=2;lift 19;", 90_010);
        DUE.lifts("", 0);
        DUE.lifts("lift 5 if 1=2;", 0);
    }
}
