import java.util.Random;

/** Long runs of calls, the same each time, on GallopRoads and on Model: every answer must agree. */
public final class RandomTest {
    private static final int RUNS = 400;
    private static final String[] GROWING = {
        "lift up*wind/40;twist spin*wind/40;",
        "twist turn*wind/100;",
        "twist sign(turn)*2 if turn<500 and turn>0-500;",
        "lift sign(up)*wind;twist sign(spin)*wind*3;",
        "lift wind*sign(height)*3 if tick/5*5=tick;twist wind*side/2 if tick/7*7=tick;",
        "twist most(turn,0-height)*sign(spin) if not [tick<3 or side=holes] and piece>1;",
        "lift wind*(side-holes/10)*up/100; twist wind*(side-holes/10)*spin/200 if wind>7;",
        "twist 200 if piece=1;lift 10000*wind;",
    };

    private final Random dice;
    private GallopRoads x;
    private Model m;
    private int wrong;
    private int run;
    private int calls;

    private RandomTest(int seed) {
        dice = new Random(seed);
    }

    public static void main(String[] args) {
        RandomTest test = new RandomTest(20261118);
        for (test.run = 0; test.run < RUNS && test.wrong < 20; test.run++) {
            test.runOnce();
        }
        if (test.wrong > 0) {
            System.exit(1);
        }
    }

    /** Runs end ahead of the 512th call; every fourth has the calls, too, that try many trials. */
    private void runOnce() {
        x = new GallopRoads();
        m = new Model();
        calls = 0;
        boolean brisk = run % 4 != 0;
        while (calls < 470 && wrong < 20) {
            if (calls < 40 || dice.nextInt(brisk ? 40 : 8) == 0) {
                makeLaw();
            }
            one(dice.nextInt(brisk ? 36 : 40));
        }
    }

    private void same(String call, Due.Call a, Due.Call b) {
        calls++;
        String got = Due.outcome(a);
        String want = Due.outcome(b);
        if (!got.equals(want)) {
            wrong++;
            System.out.println("run " + run + ": " + call + " answered " + got + ", due is " + want);
        }
    }

    private void makeLaw() {
        String text = dice.nextInt(3) == 0 ? GROWING[dice.nextInt(GROWING.length)] : lawText();
        if (dice.nextInt(3) == 0) {
            text = spoilt(text);
        }
        if (text.length() > 300) {
            text = text.substring(0, 300);
        }
        for (int k = 0; 20 * k < text.length(); k++) {
            int[] f = Due.fed(text, k);
            same("feed", () -> x.feed(f[0], f[1], f[2], f[3], f[4]), () -> m.feed(f[0], f[1], f[2], f[3], f[4]));
        }
        int n = dice.nextInt(12) == 0 ? dice.nextInt(330) - 10 : text.length();
        same("law(" + n + ") of '" + text + "'", () -> x.law(n), () -> m.law(n));
        same("fault() of '" + text + "'", () -> x.fault(), () -> m.fault());
    }

    private String spoilt(String text) {
        if (text.isEmpty()) {
            return ";";
        }
        int at = dice.nextInt(text.length());
        String[] parts = {"", " ", "(", ")", "[", "]", "not ", "not not not not not not not ", "((((((", "10000", "9999",
            "00000000000000000000000001", "99999999999999999999", "lift", "twist ", "if ", " and ", " or ", "least(1,2)",
            "sign", "U", "\u00e9", "\u0000", "\t", ",", ";", "<", "=", "lift 1;lift 1;lift 1;lift 1;lift 1;lift 1;"};
        String part = parts[dice.nextInt(parts.length)];
        return text.substring(0, at) + part + text.substring(dice.nextBoolean() ? at : Math.min(text.length(), at + 1));
    }

    private String lawText() {
        StringBuilder text = new StringBuilder();
        int clauses = dice.nextInt(30) == 0 ? 13 : 1 + dice.nextInt(3);
        for (int k = 0; k < clauses; k++) {
            text.append(blank()).append(dice.nextBoolean() ? "lift " : "twist ");
            text.append(clauses == 13 ? "1" : e(dice.nextInt(5)));
            if (clauses < 13 && dice.nextInt(2) == 0) {
                text.append(" if ").append(c(dice.nextInt(3)));
            }
            text.append(blank()).append(";");
        }
        return text.append(blank()).toString();
    }

    private String blank() {
        return dice.nextInt(6) == 0 ? " " : "";
    }

    private String e(int depth) {
        switch (depth <= 0 ? dice.nextInt(2) : dice.nextInt(9)) {
            case 0: return blank() + Integer.toString(dice.nextInt(dice.nextInt(4) == 0 ? 10_100 : 60));
            case 1: return blank() + Model.Reading.NAMES.get(dice.nextInt(9));
            case 2: return e(depth - 1) + blank() + "+" + e(depth - 1);
            case 3: return e(depth - 1) + "-" + e(depth - 1);
            case 4: return e(depth - 1) + blank() + "*" + e(depth - 1);
            case 5: return e(depth - 1) + "/" + e(depth - 1);
            case 6: return "(" + e(depth - 1) + blank() + ")";
            case 7: return (dice.nextBoolean() ? "least" : "most") + blank() + "(" + e(depth - 1) + "," + e(depth - 1) + ")";
            default: return "sign(" + e(depth - 1) + ")";
        }
    }

    private String c(int depth) {
        switch (depth <= 0 ? 0 : dice.nextInt(5)) {
            case 1: return c(depth - 1) + " or " + c(depth - 1);
            case 2: return c(depth - 1) + " and " + c(depth - 1);
            case 3: return "not " + c(depth - 1);
            case 4: return "[" + c(depth - 1) + blank() + "]";
            default: return e(dice.nextInt(3)) + blank() + "<>=".charAt(dice.nextInt(3)) + e(dice.nextInt(2)) + " ";
        }
    }

    /** Mostly from least to most, now and then beyond. */
    private int num(int least, int most) {
        switch (dice.nextInt(25)) {
            case 0: return least - 1;
            case 1: return most + 1;
            case 2: return most;
            case 3: return least;
            case 4: return dice.nextInt(6) == 0 ? dice.nextInt() : least;
            default: return least + dice.nextInt(most - least + 1);
        }
    }

    private int windy() {
        return dice.nextInt(3) == 0 ? num(0, 99) : num(0, 15);
    }

    private int far() {
        return dice.nextInt(3) == 0 ? num(0, 1_000_000) : num(0, 900);
    }

    private void one(int which) {
        int law = dice.nextInt(15) == 0 ? num(-1, 4) : dice.nextInt(Math.max(1, m.count(1)));
        int wind = windy();
        int kind = num(0, 1);
        int halves = num(1, 4);
        boolean flag = dice.nextBoolean();
        String about = "(" + law + ", " + wind + ", " + kind + ", " + halves + ", " + flag + ")";
        if (which < 12) {
            onDeck(which, law, wind, kind, halves, flag);
            return;
        }
        switch (which) {
            case 12: same("grows" + about, () -> x.grows(law, wind, kind, halves) ? 1 : 0,
                () -> m.grows(law, wind, kind, halves) ? 1 : 0); break;
            case 13: same("line" + about, () -> x.line(law, kind, halves), () -> m.line(law, kind, halves)); break;
            case 14: same("why" + about, () -> x.why(law, wind, kind, halves), () -> m.why(law, wind, kind, halves)); break;
            case 15: same("first" + about, () -> x.first(law, wind, kind, halves, flag),
                () -> m.first(law, wind, kind, halves, flag)); break;
            case 16: same("where" + about, () -> x.where(law, wind, kind, halves, flag),
                () -> m.where(law, wind, kind, halves, flag)); break;
            case 17: same("slip" + about, () -> x.slip(law, wind, halves), () -> m.slip(law, wind, halves)); break;
            case 18:
            case 19:
                int size = dice.nextBoolean() ? num(1, 9999) : num(1, 200);
                int far = far();
                String more = about + " size " + size + " far " + far;
                same("barred" + more, () -> x.barred(law, wind, kind, halves, size, far),
                    () -> m.barred(law, wind, kind, halves, size, far));
                same("shut" + more, () -> x.shut(law, wind, kind, halves, size, far),
                    () -> m.shut(law, wind, kind, halves, size, far));
                break;
            case 20: same("calm" + about, () -> x.calm(law, wind) ? 1 : 0, () -> m.calm(law, wind) ? 1 : 0); break;
            case 36: same("mended" + about, () -> x.mended(law, wind), () -> m.mended(law, wind)); break;
            case 37: int day = num(0, 5);
                same("week " + law + ", " + day, () -> x.week(law, day), () -> m.week(law, day)); break;
            case 38:
            case 39: int s = num(0, 50);
                same("span" + about + s, () -> x.span(law, kind, halves, s, flag), () -> m.span(law, kind, halves, s, flag));
                break;
            default: onRest(which); break;
        }
    }

    private void onDeck(int which, int law, int wind, int kind, int halves, boolean flag) {
        int piece = num(0, m.count(0) - 1);
        switch (which) {
            case 0: if (dice.nextInt(4) == 0) {
                int n = num(2, 8);
                same("deck(" + n + ")", () -> x.deck(n), () -> m.deck(n));
            } break;
            case 1:
            case 2:
            case 3:
                int number = num(0, 9);
                int known = Math.max(0, Math.min(9, number));
                int small = dice.nextBoolean() ? num(Model.LEAST[known], Model.MOST[known])
                    : num(Model.LEAST[known], known == 7 || known == 9 ? 400 : 30);
                same("set(" + number + ", " + small + ")", () -> x.set(number, small), () -> m.set(number, small));
                break;
            case 4: same("stay(" + piece + ", " + flag + ")", () -> x.stay(piece, flag), () -> m.stay(piece, flag)); break;
            case 5:
                int size = num(1, 9999);
                same("shape", () -> x.shape(kind, halves, size), () -> m.shape(kind, halves, size));
                break;
            case 6:
            case 7:
                int ticks = dice.nextBoolean() ? num(0, 100) : num(0, 3);
                same("go(" + law + ", " + wind + ", " + ticks + ")", () -> x.go(law, wind, ticks), () -> m.go(law, wind, ticks));
                break;
            case 8:
            case 9:
            case 10:
                int what = num(0, 5);
                same("piece(" + piece + ", " + what + ")", () -> x.piece(piece, what), () -> m.piece(piece, what));
                break;
            default: same("push", () -> x.push(law, wind, piece, flag), () -> m.push(law, wind, piece, flag)); break;
        }
    }

    private void onRest(int which) {
        int a = num(0, 9);
        int day = num(0, 999);
        int bits = dice.nextBoolean() ? num(0, 255) : 1 << dice.nextInt(8);
        int other = dice.nextInt(3) == 0 ? 0 : dice.nextBoolean() ? num(0, 255) : 1 << dice.nextInt(8);
        int bridge = num(0, Math.max(0, m.count(5) - 1));
        switch (which) {
            case 21:
            case 22: int piece = num(0, m.count(0) - 1);
                int tick = num(1, 100);
                int turn = num(-300, 300);
                int high = dice.nextInt(9) == 0 ? num(-1_000_000, 1_000_000) : num(-300, 300);
                same("film", () -> x.film(tick, piece, high, turn), () -> m.film(tick, piece, high, turn)); break;
            case 23:
            case 24: int v = dice.nextInt(4) == 0 ? num(-999_999, 999_999) : num(-60, 60);
                int cost = dice.nextBoolean() ? num(0, 5) : num(0, 999);
                same("mend(" + a + ", " + v + ", " + cost + ")", () -> x.mend(a, v, cost), () -> m.mend(a, v, cost)); break;
            case 25: int line = num(0, 60);
                same("bridge", () -> x.bridge(line), () -> m.bridge(line)); break;
            case 26: int h = num(0, 999);
                same("blows", () -> x.blows(bridge, a, h), () -> m.blows(bridge, a, h)); break;
            case 27: same("hours", () -> x.hours(bridge), () -> m.hours(bridge)); break;
            case 28:
            case 29: same("paper", () -> x.paper(day, bits, other), () -> m.paper(day, bits, other)); break;
            case 30: same("known", () -> x.known(day), () -> m.known(day)); break;
            case 31: same("could", () -> x.could(bits), () -> m.could(bits)); break;
            case 32: same("image", () -> x.image(), () -> m.image()); break;
            case 33: same("restore", () -> x.restore(), () -> m.restore()); break;
            case 34:
            case 35:
                for (int k = -1; k < 31; k++) {
                    int c = k;
                    same("count(" + c + ")", () -> x.count(c), () -> m.count(c));
                }
                break;
            default: break;
        }
    }
}
