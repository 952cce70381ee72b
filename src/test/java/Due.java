/** What tests share: telling wrong answers, feeding texts, and calls that are to throw. */
final class Due {
    /** A call, so that a test can make it and see whether it throws. */
    interface Call {
        long answer();
    }

    private int wrong;

    void is(String call, long got, long want) {
        if (got != want) {
            wrong++;
            System.out.println(call + " answered " + got + ", due is " + want);
        }
    }

    void is(String call, boolean got, boolean want) {
        is(call, got ? 1 : 0, want ? 1 : 0);
    }

    void raises(String call, Class<? extends RuntimeException> due, Call made) {
        String got = outcome(made);
        if (!got.equals(due.getName())) {
            wrong++;
            System.out.println(call + " gave " + got + ", due is " + due.getName());
        }
    }

    void index(String call, Call made) {
        raises(call, IndexOutOfBoundsException.class, made);
    }

    void illegal(String call, Call made) {
        raises(call, IllegalArgumentException.class, made);
    }

    void missing(String call, Call made) {
        raises(call, java.util.NoSuchElementException.class, made);
    }

    /** The answer as a text, or the name of what was thrown. */
    static String outcome(Call made) {
        try {
            return Long.toString(made.answer());
        } catch (RuntimeException e) {
            return e.getClass().getName();
        }
    }

    void end() {
        if (wrong > 0) {
            System.exit(1);
        }
    }

    /** The five numbers with which the k-th twenty bytes of a text are fed. */
    static int[] fed(String text, int k) {
        int[] numbers = new int[5];
        for (int i = 0; i < 20; i++) {
            int at = 20 * k + i;
            int sign = at < text.length() ? text.charAt(at) & 255 : 0;
            numbers[i / 4] = numbers[i / 4] << 8 | sign;
        }
        return numbers;
    }

    /** Feeds a text (on an empty tape) and makes it a law: what law() answers. */
    static int law(GallopRoads x, String text) {
        for (int k = 0; 20 * k < text.length(); k++) {
            int[] f = fed(text, k);
            x.feed(f[0], f[1], f[2], f[3], f[4]);
        }
        return x.law(text.length());
    }

    /** The text is no law: law() answers its fault, fault() its place, and there is no law more. */
    void faulty(String text, int kind, int place) {
        GallopRoads x = new GallopRoads();
        is("3: law '" + text + "'", law(x, text), kind - 10);
        is("4: fault of '" + text + "'", x.fault(), place);
        is("3: no law of '" + text + "'", x.count(1), 0);
    }

    void lawful(String text) {
        GallopRoads x = new GallopRoads();
        is("3: law '" + text + "'", law(x, text), 0);
        is("4: no fault of '" + text + "'", x.fault(), -1);
    }

    /** The text is a law, and tells so much lift at wind 7 of a piece at rest. */
    void lifts(String text, int lift) {
        GallopRoads x = new GallopRoads();
        int law = law(x, text);
        is("law '" + text + "'", law, 0);
        if (law == 0) {
            is("lift told by '" + text + "'", x.push(0, 7, 0, false), lift);
        }
    }

    /** All that calls can see of an object without changing it (some hundred calls). */
    static String seen(GallopRoads x) {
        StringBuilder all = new StringBuilder();
        for (int what = 0; what < 30; what++) {
            if (what < 11 || what > 19) {
                all.append(what).append(':').append(x.count(what)).append(' ');
            }
        }
        all.append("fault ").append(x.fault()).append("\npieces");
        for (int i = 0; i < x.count(0); i++) {
            for (int what = 0; what < 6; what++) {
                all.append(' ').append(x.piece(i, what));
            }
        }
        all.append("\nhours");
        for (int bridge = 0; bridge < x.count(5); bridge++) {
            all.append(' ').append(x.hours(bridge));
        }
        all.append("\nknown ").append(x.known(0)).append(' ').append(x.known(500)).append(' ').append(x.known(999));
        if (x.count(1) > 0) {
            all.append("\nbarred ").append(x.barred(0, 9, 1, 2, 50, 3)).append(" mended ").append(x.mended(0, 9));
            for (int day = 0; day < x.count(4); day++) {
                all.append(" day ").append(x.week(0, day));
            }
            for (int law = 0; law < x.count(1); law++) {
                all.append(" push ").append(x.push(law, 9, 1, false)).append(' ').append(x.push(law, 9, 1, true));
            }
        }
        return all.toString();
    }

    void same(String what, String got, String want) {
        if (!got.equals(want)) {
            wrong++;
            System.out.println(what + ": is\n" + got + "\ndue is\n" + want);
        }
    }

    static String times(String text, int n) {
        StringBuilder all = new StringBuilder();
        for (int k = 0; k < n; k++) {
            all.append(text);
        }
        return all.toString();
    }
}
