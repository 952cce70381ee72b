/** What tests share: telling wrong answers, feeding texts, and calls that are to throw. */
final class Due {
    /** A call, so that a test can make it and see whether it throws. */
    interface Call {
        long answer();
    }

    private int wrong;

    void is(String call, long got, long want) {
        if (got != want) {
            wrong++;
            System.out.println(call + " answered " + got + ", due is " + want);
        }
    }

    void is(String call, boolean got, boolean want) {
        is(call, got ? 1 : 0, want ? 1 : 0);
    }

    void raises(String call, Class<? extends RuntimeException> due, Call made) {
        String got = outcome(made);
        if (!got.equals(due.getName())) {
            wrong++;
            System.out.println(call + " gave " + got + ", due is " + due.getName());
        }
    }

    void index(String call, Call made) {
        raises(call, IndexOutOfBoundsException.class, made);
    }

    void illegal(String call, Call made) {
        raises(call, IllegalArgumentException.class, made);
    }

    void missing(String call, Call made) {
        raises(call, java.util.NoSuchElementException.class, made);
    }

    /** The answer as a text, or the name of what was thrown. */
    static String outcome(Call made) {
        try {
            return Long.toString(made.answer());
        } catch (RuntimeException e) {
            return e.getClass().getName();
        }
    }

    void end() {
        if (wrong > 0) {
            System.exit(1);
        }
    }

    /** The five numbers with which the k-th twenty bytes of a text are fed. */
    static int[] fed(String text, int k) {
        int[] numbers = new int[5];
        for (int i = 0; i < 20; i++) {
            int at = 20 * k + i;
            int sign = at < text.length() ? text.charAt(at) & 255 : 0;
            numbers[i / 4] = numbers[i / 4] << 8 | sign;
        }
        return numbers;
    }

    /** Feeds a text (on an empty tape) and makes it a law: what law() answers. */
    static int law(GallopRoads x, String text) {
        for (int k = 0; 20 * k < text.length(); k++) {
            int[] f = fed(text, k);
            x.feed(f[0], f[1], f[2], f[3], f[4]);
        }
        return x.law(text.length());
    }

    static String times(String text, int n) {
        StringBuilder all = new StringBuilder();
        for (int k = 0; k < n; k++) {
            all.append(text);
        }
        return all.toString();
    }
}
