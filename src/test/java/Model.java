import java.util.ArrayList;
import java.util.Arrays;
import java.util.List;
import java.util.NoSuchElementException;

/**
 * The document told a second time, plainly and with the whole Java library, and apart from
 * GallopRoads: RandomTest holds the one against the other.
 */
final class Model {
    static final int[] LEAST = {1, 0, 0, 0, 0, 0, 0, 0, 0, 0};
    static final int[] MOST = {99, 99, 99, 99, 99, 99, 99, 9999, 99, 999999};

    interface Value {
        int of(int[] env);
    }

    interface Holds {
        boolean of(int[] env);
    }

    static final class Clause {
        boolean twist;
        Value value;
        Holds holds;
    }

    static final class Fault extends RuntimeException {
        final int kind;
        final int place;

        Fault(int kind, int place) {
            this.kind = kind;
            this.place = place;
        }
    }

    /** Reads straight from the text, a byte at a time. */
    static final class Reading {
        static final List<String> NAMES =
            List.of("wind", "tick", "height", "turn", "up", "spin", "side", "holes", "piece");
        final String text;
        int at;
        int open;

        Reading(String text) {
            this.text = text;
        }

        /** The piece of text that stands next, "" at the end; it is not taken. */
        String next() {
            while (at < text.length() && text.charAt(at) == ' ') {
                at++;
            }
            if (at == text.length()) {
                return "";
            }
            int end = at + 1;
            if (digit(text.charAt(at))) {
                while (end < text.length() && digit(text.charAt(end))) {
                    end++;
                }
            } else if (letter(text.charAt(at))) {
                while (end < text.length() && letter(text.charAt(end))) {
                    end++;
                }
            }
            return text.substring(at, end);
        }

        static boolean digit(char c) {
            return c >= '0' && c <= '9';
        }

        static boolean letter(char c) {
            return c >= 'a' && c <= 'z';
        }

        String take() {
            String s = next();
            at += s.length();
            return s;
        }

        Fault cant() {
            next();
            return new Fault(1, at);
        }

        void expect(String s) {
            if (!next().equals(s)) {
                throw cant();
            }
            take();
        }

        void openUp(String s) {
            if (!next().equals(s)) {
                throw cant();
            }
            if (open == 6) {
                throw new Fault(3, at);
            }
            open++;
            take();
        }

        void close(String s) {
            expect(s);
            open--;
        }

        List<Clause> law() {
            List<Clause> all = new ArrayList<>();
            while (!next().isEmpty()) {
                boolean lift = next().equals("lift");
                if (!lift && !next().equals("twist")) {
                    throw cant();
                }
                if (all.size() == 12) {
                    throw new Fault(3, at);
                }
                take();
                Clause c = new Clause();
                c.twist = !lift;
                c.value = e();
                c.holds = env -> true;
                if (next().equals("if")) {
                    take();
                    c.holds = c();
                }
                expect(";");
                all.add(c);
            }
            return all;
        }

        Value e() {
            Value left = t();
            while (next().equals("+") || next().equals("-")) {
                boolean plus = take().equals("+");
                Value a = left;
                Value b = t();
                left = plus ? env -> a.of(env) + b.of(env) : env -> a.of(env) - b.of(env);
            }
            return left;
        }

        Value t() {
            Value left = u();
            while (next().equals("*") || next().equals("/")) {
                boolean times = take().equals("*");
                Value a = left;
                Value b = u();
                left = times ? env -> a.of(env) * b.of(env)
                    : env -> b.of(env) == 0 ? 0 : (int) ((long) a.of(env) / b.of(env));
            }
            return left;
        }

        Value u() {
            String s = next();
            if (!s.isEmpty() && digit(s.charAt(0))) {
                String bare = s.replaceFirst("^0+", "");
                if (bare.length() > 4) {
                    throw new Fault(2, at);
                }
                int n = bare.isEmpty() ? 0 : Integer.parseInt(bare);
                take();
                return env -> n;
            }
            if (NAMES.contains(s)) {
                int name = NAMES.indexOf(s);
                take();
                return env -> env[name];
            }
            if (s.equals("(")) {
                openUp("(");
                Value v = e();
                close(")");
                return v;
            }
            if (s.equals("sign")) {
                take();
                openUp("(");
                Value v = e();
                close(")");
                return env -> v.of(env) > 0 ? 1 : v.of(env) < 0 ? -1 : 0;
            }
            if (s.equals("least") || s.equals("most")) {
                take();
                openUp("(");
                Value a = e();
                expect(",");
                Value b = e();
                close(")");
                boolean least = s.equals("least");
                return env -> a.of(env) < b.of(env) == least ? a.of(env) : b.of(env);
            }
            throw cant();
        }

        Holds c() {
            Holds left = a();
            while (next().equals("or")) {
                take();
                Holds x = left;
                Holds y = a();
                left = env -> x.of(env) || y.of(env);
            }
            return left;
        }

        Holds a() {
            Holds left = b();
            while (next().equals("and")) {
                take();
                Holds x = left;
                Holds y = b();
                left = env -> x.of(env) && y.of(env);
            }
            return left;
        }

        Holds b() {
            if (next().equals("not")) {
                openUp("not");
                Holds x = b();
                open--;
                return env -> !x.of(env);
            }
            if (next().equals("[")) {
                openUp("[");
                Holds x = c();
                close("]");
                return x;
            }
            Value l = e();
            String r = next();
            if (!List.of("<", ">", "=").contains(r)) {
                throw cant();
            }
            take();
            Value m = e();
            return env -> r.equals("<") ? l.of(env) < m.of(env)
                : r.equals(">") ? l.of(env) > m.of(env) : l.of(env) == m.of(env);
        }
    }

    static final class Deck {
        int n = 4;
        int ticks;
        long[] numbers = {4, 20, 10, 5, 2, 8, 0, 300, 30, 0};
        long[][] now = new long[4][8];
        boolean[] stay = {true, true, true, true, true, true, true, true};
        boolean[] slipped = new boolean[8];
        boolean[] torn = new boolean[8];

        Deck twin() {
            Deck d = new Deck();
            d.n = n;
            d.ticks = ticks;
            d.numbers = numbers.clone();
            for (int k = 0; k < 4; k++) {
                d.now[k] = now[k].clone();
            }
            d.stay = stay.clone();
            d.slipped = slipped.clone();
            d.torn = torn.clone();
            return d;
        }

        Deck forTrial() {
            Deck d = twin();
            d.ticks = 0;
            d.slipped = new boolean[8];
            d.torn = new boolean[8];
            return d;
        }

        void shape(int kind, int halves, int size) {
            now = new long[4][8];
            for (int i = 0; i < n; i++) {
                now[kind][i] = Math.floorDiv(i * halves, n) % 2 == 0 ? size : -size;
            }
        }

        int size(int kind) {
            return (int) Arrays.stream(now[kind]).limit(n).map(Math::abs).max().getAsLong();
        }

        int[] env(int i, int wind) {
            return new int[] {wind, ticks, (int) now[0][i], (int) now[1][i], (int) now[2][i], (int) now[3][i],
                (int) numbers[5], (int) numbers[6], i};
        }

        static long limit(long v) {
            return Math.max(-1_000_000, Math.min(1_000_000, v));
        }

        long neighbour(int kind, int i, int other) {
            if (other < 0 || other >= n) {
                return 0;
            }
            return torn[Math.min(i, other)] ? now[kind][i] : now[kind][other];
        }

        void tick(List<Clause> law, int wind, int percent) {
            long[][] then = new long[4][8];
            for (int i = 0; i < n; i++) {
                for (int kind = 0; kind < 2; kind++) {
                    long own = now[kind][i];
                    long back = kind == 0 ? numbers[3] : stay[i] && !slipped[i] ? numbers[8] : 0;
                    long pull = numbers[kind == 0 ? 1 : 2]
                        * (neighbour(kind, i, i - 1) + neighbour(kind, i, i + 1) - 2 * own) - back * own;
                    long push = (long) told(law, kind == 1, env(i, wind)) * percent / 100;
                    long speed = now[kind + 2][i];
                    then[kind + 2][i] =
                        limit(speed + (pull / 10 + push) / numbers[0] - speed * numbers[4] / 100);
                    then[kind][i] = limit(own + then[kind + 2][i]);
                }
            }
            now = then;
            ticks++;
            for (int i = 0; i < n; i++) {
                slipped[i] |= stay[i] && (now[1][i] > numbers[7] || now[1][i] < -numbers[7]);
                if (i + 1 < n && numbers[9] != 0) {
                    torn[i] |= Math.abs(now[1][i] - now[1][i + 1]) > numbers[9];
                }
            }
        }
    }

    static int told(List<Clause> law, boolean twist, int[] env) {
        int sum = 0;
        for (Clause c : law) {
            if (c.twist == twist && c.holds.of(env)) {
                sum += c.value.of(env);
            }
        }
        return Math.max(-100_000, Math.min(100_000, sum));
    }

    static final class State {
        Deck deck = new Deck();
        List<int[]> film = new ArrayList<>();
        List<int[]> mends = new ArrayList<>();
        List<int[]> bridges = new ArrayList<>();
        List<int[]> papers = new ArrayList<>();

        State twin() {
            State s = new State();
            s.deck = deck.twin();
            film.forEach(r -> s.film.add(r.clone()));
            mends.forEach(r -> s.mends.add(r.clone()));
            bridges.forEach(r -> s.bridges.add(r.clone()));
            papers.forEach(r -> s.papers.add(r.clone()));
            return s;
        }
    }

    private State s = new State();
    private final List<State> images = new ArrayList<>();
    private final List<List<Clause>> laws = new ArrayList<>();
    private String tape = "";
    private int faultPlace = -1;

    private static void need(boolean b) {
        if (!b) {
            throw new IllegalArgumentException();
        }
    }

    private static void in(int v, int least, int most) {
        need(v >= least && v <= most);
    }

    private List<Clause> lawOf(int law) {
        if (law < 0 || law >= laws.size()) {
            throw new IndexOutOfBoundsException();
        }
        return laws.get(law);
    }

    private void needPiece(int piece) {
        if (piece < 0 || piece >= s.deck.n) {
            throw new NoSuchElementException();
        }
    }

    private int[] bridgeOf(int bridge) {
        if (bridge < 0 || bridge >= s.bridges.size()) {
            throw new NoSuchElementException();
        }
        return s.bridges.get(bridge);
    }

    int feed(int a, int b, int c, int d, int e) {
        if (tape.length() > 280) {
            return -1;
        }
        for (int v : new int[] {a, b, c, d, e}) {
            tape += "" + (char) (v >>> 24) + (char) (v >> 16 & 255) + (char) (v >> 8 & 255) + (char) (v & 255);
        }
        return tape.length();
    }

    int law(int n) {
        in(n, 0, tape.length());
        String text = tape.substring(0, n);
        tape = "";
        faultPlace = -1;
        if (laws.size() == 4) {
            return -1;
        }
        try {
            laws.add(new Reading(text).law());
            return laws.size() - 1;
        } catch (Fault f) {
            faultPlace = f.place;
            return f.kind - 10;
        }
    }

    int fault() {
        return faultPlace;
    }

    int deck(int n) {
        in(n, 2, 8);
        Deck fresh = new Deck();
        int had = s.deck.n;
        fresh.numbers = s.deck.numbers;
        fresh.n = n;
        s.deck = fresh;
        return had;
    }

    int set(int which, int v) {
        in(which, 0, 9);
        in(v, LEAST[which], MOST[which]);
        int was = (int) s.deck.numbers[which];
        s.deck.numbers[which] = v;
        return was;
    }

    private int stayOf(int piece) {
        return !s.deck.stay[piece] ? 0 : s.deck.slipped[piece] ? 1 : 2;
    }

    int stay(int piece, boolean is) {
        needPiece(piece);
        int was = stayOf(piece);
        s.deck.stay[piece] = is;
        if (was == 0 || !is) {
            s.deck.slipped[piece] = false;
        }
        return was;
    }

    int shape(int kind, int halves, int size) {
        in(kind, 0, 1);
        in(halves, 1, 4);
        in(size, 1, 9999);
        s.deck.shape(kind, halves, size);
        return s.deck.size(kind);
    }

    int go(int law, int wind, int ticks) {
        List<Clause> l = lawOf(law);
        in(wind, 0, 99);
        in(ticks, 0, 100);
        for (int t = 0; t < ticks; t++) {
            s.deck.tick(l, wind, 100);
        }
        return s.deck.size(1);
    }

    int piece(int piece, int what) {
        needPiece(piece);
        in(what, 0, 5);
        if (what == 4) {
            return stayOf(piece);
        }
        return what == 5 ? (s.deck.torn[piece] ? 1 : 0) : (int) s.deck.now[what][piece];
    }

    int push(int law, int wind, int piece, boolean twist) {
        List<Clause> l = lawOf(law);
        needPiece(piece);
        in(wind, 0, 99);
        return told(l, twist, s.deck.env(piece, wind));
    }

    private static boolean grew(Deck base, List<Clause> law, int wind, int kind, int halves, int size, int percent) {
        Deck d = base.forTrial();
        d.shape(kind, halves, size);
        int[] sizes = new int[61];
        for (int t = 1; t <= 60; t++) {
            d.tick(law, wind, percent);
            sizes[t] = d.size(kind);
        }
        int early = Arrays.stream(sizes, 1, 31).max().getAsInt();
        int late = Arrays.stream(sizes, 31, 61).max().getAsInt();
        return late > early;
    }

    private List<Clause> shaped(int law, int wind, int kind, int halves) {
        List<Clause> l = lawOf(law);
        in(wind, 0, 99);
        in(kind, 0, 1);
        in(halves, 1, 4);
        return l;
    }

    boolean grows(int law, int wind, int kind, int halves) {
        return grew(s.deck, shaped(law, wind, kind, halves), wind, kind, halves, 100, 100);
    }

    private int lineOf(List<Clause> law, int kind, int halves, int percent) {
        for (int w = 0; w <= 60; w++) {
            if (grew(s.deck, law, w, kind, halves, 100, percent)) {
                return w;
            }
        }
        return -1;
    }

    int line(int law, int kind, int halves) {
        return lineOf(shaped(law, 0, kind, halves), kind, halves, 100);
    }

    int why(int law, int wind, int kind, int halves) {
        List<Clause> l = shaped(law, wind, kind, halves);
        boolean[] g = new boolean[1001];
        for (int size : new int[] {1, 100, 200, 1000}) {
            g[size] = grew(s.deck, l, wind, kind, halves, size, 100);
        }
        return (g[100] && g[200] ? 1 : 0) + (g[1] && !g[1000] ? 2 : 0);
    }

    /** The tick and the piece of what breaks first, as told; null if nothing does. */
    private int[] breaks(int law, int wind, int kind, int halves, boolean torn) {
        Deck d = s.deck.forTrial();
        List<Clause> l = shaped(law, wind, kind, halves);
        d.shape(kind, halves, 100);
        for (int t = 1; t <= 60; t++) {
            d.tick(l, wind, 100);
            for (int i = 0; i < d.n; i++) {
                if (torn ? d.torn[i] : d.slipped[i]) {
                    return new int[] {t, i};
                }
            }
        }
        return null;
    }

    int first(int law, int wind, int kind, int halves, boolean torn) {
        int[] b = breaks(law, wind, kind, halves, torn);
        return b == null ? -1 : b[0];
    }

    int where(int law, int wind, int kind, int halves, boolean torn) {
        int[] b = breaks(law, wind, kind, halves, torn);
        return b == null ? -1 : b[1];
    }

    int slip(int law, int wind, int halves) {
        List<Clause> l = shaped(law, wind, 1, halves);
        Deck bare = s.deck.twin();
        bare.stay = new boolean[8];
        return (grew(s.deck, l, wind, 1, halves, 100, 100) ? 1 : 0)
            + (grew(bare, l, wind, 1, halves, 100, 100) ? 2 : 0);
    }

    int film(int tick, int piece, int height, int turn) {
        needPiece(piece);
        in(tick, 1, 100);
        in(height, -1_000_000, 1_000_000);
        in(turn, -1_000_000, 1_000_000);
        if (s.film.size() == 20) {
            return -1;
        }
        s.film.add(new int[] {tick, piece, height, turn});
        return s.film.size();
    }

    int barred(int law, int wind, int kind, int halves, int size, int far) {
        List<Clause> l = shaped(law, wind, kind, halves);
        in(size, 1, 9999);
        in(far, 0, 1_000_000);
        for (int row = 0; row < s.film.size(); row++) {
            int[] r = s.film.get(row);
            if (r[1] < s.deck.n) {
                Deck d = s.deck.forTrial();
                d.shape(kind, halves, size);
                for (int t = 1; t <= r[0]; t++) {
                    d.tick(l, wind, 100);
                }
                if (Math.abs(d.now[0][r[1]] - r[2]) > far || Math.abs(d.now[1][r[1]] - r[3]) > far) {
                    return row;
                }
            }
        }
        return -1;
    }

    int mend(int which, int v, int cost) {
        in(which, 0, 9);
        in(v, -999_999, 999_999);
        in(cost, 0, 999);
        if (s.mends.size() == 5) {
            return -1;
        }
        s.mends.add(new int[] {which, v, cost});
        return s.mends.size() - 1;
    }

    private static void make(Deck d, int[] mend) {
        d.numbers[mend[0]] = Math.max(LEAST[mend[0]], Math.min(MOST[mend[0]], d.numbers[mend[0]] + mend[1]));
    }

    private static boolean isCalm(Deck d, List<Clause> law, int wind) {
        for (int kind = 0; kind < 2; kind++) {
            for (int halves = 1; halves <= 3; halves++) {
                if (grew(d, law, wind, kind, halves, 100, 100)) {
                    return false;
                }
            }
        }
        return true;
    }

    boolean calm(int law, int wind) {
        return isCalm(s.deck, shaped(law, wind, 0, 1), wind);
    }

    int mended(int law, int wind) {
        List<Clause> l = shaped(law, wind, 0, 1);
        int best = -1;
        int least = Integer.MAX_VALUE;
        for (int bits = 0; bits < 1 << s.mends.size(); bits++) {
            Deck d = s.deck.twin();
            int cost = 0;
            for (int k = 0; k < s.mends.size(); k++) {
                if ((bits & 1 << k) != 0) {
                    make(d, s.mends.get(k));
                    cost += s.mends.get(k)[2];
                }
            }
            if (isCalm(d, l, wind) && cost < least) {
                best = bits;
                least = cost;
            }
        }
        return best;
    }

    int week(int law, int day) {
        List<Clause> l = lawOf(law);
        need(day >= 0);
        Deck d = s.deck.twin();
        List<Integer> left = new ArrayList<>();
        for (int k = 0; k < s.mends.size(); k++) {
            left.add(k);
        }
        for (int today = 0; !left.isEmpty(); today++) {
            int best = -1;
            int greatest = -2;
            for (int k : left) {
                Deck e = d.twin();
                make(e, s.mends.get(k));
                int w = -1;
                while (w < 12 && isCalm(e, l, w + 1)) {
                    w++;
                }
                if (w > greatest) {
                    greatest = w;
                    best = k;
                }
            }
            if (today == day) {
                return best;
            }
            make(d, s.mends.get(best));
            left.remove(Integer.valueOf(best));
        }
        return -1;
    }

    int span(int law, int kind, int halves, int share, boolean most) {
        List<Clause> l = shaped(law, 0, kind, halves);
        in(share, 0, 50);
        List<Integer> lines = new ArrayList<>();
        for (int percent : new int[] {100 - share, 100, 100 + share}) {
            int line = lineOf(l, kind, halves, percent);
            if (line >= 0) {
                lines.add(line);
            }
        }
        lines.sort(null);
        return lines.isEmpty() ? -1 : lines.get(most ? lines.size() - 1 : 0);
    }

    int bridge(int line) {
        in(line, 0, 60);
        if (s.bridges.size() == 6) {
            return -1;
        }
        int[] b = new int[11];
        b[10] = line;
        s.bridges.add(b);
        return s.bridges.size() - 1;
    }

    int blows(int bridge, int k, int hours) {
        int[] b = bridgeOf(bridge);
        in(k, 0, 9);
        in(hours, 0, 999);
        int was = b[k];
        b[k] = hours;
        return was;
    }

    int hours(int bridge) {
        int[] b = bridgeOf(bridge);
        int sum = 0;
        for (int k = 0; k < 10; k++) {
            sum += 6 * k < b[10] ? 0 : b[k];
        }
        return sum;
    }

    int paper(int day, int tells, int rests) {
        in(day, 0, 999);
        in(tells, 0, 255);
        in(rests, 0, 255);
        if (s.papers.size() == 10) {
            return -1;
        }
        s.papers.add(new int[] {day, tells, rests});
        return s.papers.size();
    }

    int known(int day) {
        in(day, 0, 999);
        int bits = 0;
        boolean more = true;
        while (more) {
            int had = bits;
            for (int[] p : s.papers) {
                if (p[0] <= day && (had & p[2]) == p[2]) {
                    bits |= p[1];
                }
            }
            more = bits != had;
        }
        return bits;
    }

    int could(int bits) {
        in(bits, 0, 255);
        for (int day = 0; day <= 999; day++) {
            if ((known(day) & bits) == bits) {
                return day;
            }
        }
        return -1;
    }

    int shut(int law, int wind, int kind, int halves, int size, int above) {
        List<Clause> l = shaped(law, wind, kind, halves);
        in(size, 1, 9999);
        in(above, 0, 1_000_000);
        Deck d = s.deck.forTrial();
        d.shape(kind, halves, size);
        for (int t = 1; t <= 100; t++) {
            d.tick(l, wind, 100);
            if (d.size(kind) > above) {
                return t;
            }
        }
        return -1;
    }

    int image() {
        if (images.size() == 3) {
            return -1;
        }
        images.add(s.twin());
        return images.size();
    }

    int restore() {
        if (images.isEmpty()) {
            return -1;
        }
        s = images.remove(images.size() - 1);
        return images.size();
    }

    int count(int what) {
        int slips = 0;
        int tears = 0;
        for (int i = 0; i < s.deck.n; i++) {
            slips += stayOf(i) == 1 ? 1 : 0;
            tears += s.deck.torn[i] ? 1 : 0;
        }
        int[] all = {s.deck.n, laws.size(), s.deck.ticks, s.film.size(), s.mends.size(), s.bridges.size(),
            s.papers.size(), images.size(), tape.length(), slips, tears};
        if (what >= 20 && what <= 29) {
            return (int) s.deck.numbers[what - 20];
        }
        return what >= 0 && what < all.length ? all[what] : -1;
    }
}
