import java.util.NoSuchElementException;

/**
 * A road that gallops: a deck of pieces between two towers, pushed by wind as laws tell that are
 * texts. What each call answers is told, promise by promise, in ../shared/DOC.md; names written
 * large there (DECK, TRIAL, LINE, ..) bear the same names here.
 *
 * <p>All rows are made with the object and used again, so that calls make nothing that is kept.
 */
public final class GallopRoads {
    public static final int NONE = -1;

    private static final int MOST_TAPE = 300;
    private static final int FED_BYTES = 20;
    private static final int MOST_LAWS = 4;
    private static final int MOST_IMAGES = 3;
    private static final int MOST_WIND = 99;
    private static final int MOST_LINE = 60;
    private static final int MOST_CALM_WIND = 12;
    private static final int MOST_SHAPE = 9_999;
    private static final int MOST_HALVES = 4;
    /** Both kinds of shapes, each with halves 1 to 3. */
    private static final int CALM_SHAPES = 6;
    private static final int TRIAL_TICKS = 60;
    private static final int EARLY_TICKS = 30;
    private static final int TRIAL_SIZE = 100;
    private static final int LONG_TICKS = 100;
    private static final int MOST_FAR = 1_000_000;
    private static final int AS_TOLD = 100;
    private static final int MOST_SPAN = 50;
    private static final int MOST_DAY = 999;
    private static final int ALL_BITS = 255;
    private static final int MOST_COST = 999;
    private static final int MOST_MEND = 999_999;

    private static final int HEIGHTS = 0;
    private static final int TURNS = 1;

    private static final int NO_STAY = 0;
    private static final int SLIPPED = 1;
    private static final int HOLDS = 2;

    private static final int MASS = 0;
    private static final int STIFF = 1;
    private static final int TWISTING = 2;
    private static final int HANG = 3;
    private static final int LOSS = 4;
    private static final int SIDE = 5;
    private static final int HOLES = 6;
    private static final int GRIP = 7;
    private static final int CLAMP = 8;
    private static final int STRONG = 9;
    private static final int NUMBER_KINDS = 10;
    private static final int[] NUMBERS_AT_FIRST = {4, 20, 10, 5, 2, 8, 0, 300, 30, 0};
    private static final int[] NUMBERS_LEAST = {1, 0, 0, 0, 0, 0, 0, 0, 0, 0};
    private static final int[] NUMBERS_MOST = {99, 99, 99, 99, 99, 99, 99, 9_999, 99, 999_999};

    /** The words of laws, each with a blank behind it; their order is that of the codes below. */
    private static final String WORDS =
        "wind tick height turn up spin side holes piece lift twist if or and not least most sign ";

    // Codes of tokens, and of a law's steps: signs are their own bytes, so all else is above 255.
    private static final int NAMES = 300;
    private static final int NAME_KINDS = 9;
    private static final int LIFT = NAMES + 9;
    private static final int TWIST = NAMES + 10;
    private static final int IF = NAMES + 11;
    private static final int OR = NAMES + 12;
    private static final int AND = NAMES + 13;
    private static final int NOT = NAMES + 14;
    private static final int LEAST = NAMES + 15;
    private static final int MOST = NAMES + 16;
    private static final int SIGN = NAMES + 17;
    private static final int NO_WORD = NAMES + 18;
    private static final int NUMBER = 400;
    private static final int END = 401;
    private static final int AFTER_FAULT = 402;
    private static final int CONSTANTS = 1_000;

    private static final int CANT_STAND = 1;
    private static final int TOO_GREAT = 2;
    private static final int TOO_MANY = 3;

    private final Row tape = new Row(MOST_TAPE);
    private int tapeBytes;
    private final Reader reader = new Reader();
    private final Law[] laws = new Law[MOST_LAWS];
    private int lawCount;
    private int faultPlace = NONE;
    private final Road road = new Road();
    private final Road[] images = new Road[MOST_IMAGES];
    private int imageCount;
    /** The deck that trials are made on. */
    private final Deck trial = new Deck();
    /** The deck of a week, with the mends of the days so far. */
    private final Deck built = new Deck();

    public GallopRoads() {
        for (int k = 0; k < laws.length; k++) {
            laws[k] = new Law();
        }
        for (int k = 0; k < images.length; k++) {
            images[k] = new Road();
        }
    }

    // ---- laws

    public int feed(int a, int b, int c, int d, int e) {
        if (tapeBytes + FED_BYTES > MOST_TAPE) {
            return NONE;
        }
        putOnTape(a);
        putOnTape(b);
        putOnTape(c);
        putOnTape(d);
        putOnTape(e);
        return tapeBytes;
    }

    public int law(int n) throws IllegalArgumentException {
        demand(within(n, 0, tapeBytes));
        tapeBytes = 0;
        faultPlace = NONE;
        Law next = lawCount >= 0 && lawCount < laws.length ? laws[lawCount] : null;
        if (next == null) {
            return -1;
        }
        reader.read(tape, n);
        if (reader.fault != 0) {
            faultPlace = reader.place;
            return reader.fault - 10;
        }
        next.take(reader.steps, reader.length);
        lawCount++;
        return lawCount - 1;
    }

    public int fault() {
        return faultPlace;
    }

    // ---- the deck

    public int deck(int n) throws IllegalArgumentException {
        demand(within(n, Deck.LEAST_PIECES, Deck.MOST_PIECES));
        int had = road.deck.pieces;
        road.deck.lay(n);
        return had;
    }

    public int set(int which, int v) throws IllegalArgumentException {
        demand(within(which, 0, NUMBER_KINDS - 1) && within(v, leastOf(which), mostOf(which)));
        int was = road.deck.numbers.at(which);
        road.deck.numbers.put(which, v);
        return was;
    }

    public int stay(int piece, boolean is) throws NoSuchElementException {
        demandPiece(piece);
        int was = road.deck.stays.at(piece);
        if (!is) {
            road.deck.stays.put(piece, NO_STAY);
        } else if (was == NO_STAY) {
            road.deck.stays.put(piece, HOLDS);
        }
        return was;
    }

    public int shape(int kind, int halves, int size) throws IllegalArgumentException {
        demandShape(kind, halves);
        demand(within(size, 1, MOST_SHAPE));
        road.deck.takeShape(kind, halves, size);
        return road.deck.size(kind);
    }

    public int go(int law, int wind, int ticks) throws IndexOutOfBoundsException, IllegalArgumentException {
        Law told = lawNumbered(law);
        demandWind(wind);
        demand(within(ticks, 0, LONG_TICKS));
        for (int t = 0; t < ticks; t++) {
            road.deck.tick(told, wind, AS_TOLD);
        }
        return road.deck.size(TURNS);
    }

    public int piece(int piece, int what) throws NoSuchElementException, IllegalArgumentException {
        demandPiece(piece);
        switch (what) {
            case 0: return road.deck.heights.at(piece);
            case 1: return road.deck.turns.at(piece);
            case 2: return road.deck.ups.at(piece);
            case 3: return road.deck.spins.at(piece);
            case 4: return road.deck.stays.at(piece);
            case 5: return road.deck.torn.at(piece);
            default: throw new IllegalArgumentException("no such thing of a piece");
        }
    }

    public int push(int law, int wind, int piece, boolean twist)
            throws IndexOutOfBoundsException, NoSuchElementException, IllegalArgumentException {
        Law told = lawNumbered(law);
        demandPiece(piece);
        demandWind(wind);
        told.work(road.deck.namesOf(piece, wind));
        return twist ? told.twist : told.lift;
    }

    // ---- trials

    public boolean grows(int law, int wind, int kind, int halves)
            throws IndexOutOfBoundsException, IllegalArgumentException {
        Law told = lawNumbered(law);
        demandWind(wind);
        demandShape(kind, halves);
        trial.copy(road.deck);
        return trialGrows(told, wind, kind, halves, TRIAL_SIZE, AS_TOLD);
    }

    public int line(int law, int kind, int halves) throws IndexOutOfBoundsException, IllegalArgumentException {
        Law told = lawNumbered(law);
        demandShape(kind, halves);
        trial.copy(road.deck);
        return lineBy(told, kind, halves, AS_TOLD);
    }

    public int why(int law, int wind, int kind, int halves)
            throws IndexOutOfBoundsException, IllegalArgumentException {
        Law told = lawNumbered(law);
        demandWind(wind);
        demandShape(kind, halves);
        trial.copy(road.deck);
        boolean fed = trialGrows(told, wind, kind, halves, 100, AS_TOLD)
            && trialGrows(told, wind, kind, halves, 200, AS_TOLD);
        boolean beaten = trialGrows(told, wind, kind, halves, 1, AS_TOLD)
            && !trialGrows(told, wind, kind, halves, 1_000, AS_TOLD);
        return (fed ? 1 : 0) + (beaten ? 2 : 0);
    }

    public int first(int law, int wind, int kind, int halves, boolean torn)
            throws IndexOutOfBoundsException, IllegalArgumentException {
        Law told = lawNumbered(law);
        demandWind(wind);
        demandShape(kind, halves);
        return runTillBroken(told, wind, kind, halves, torn);
    }

    public int where(int law, int wind, int kind, int halves, boolean torn)
            throws IndexOutOfBoundsException, IllegalArgumentException {
        Law told = lawNumbered(law);
        demandWind(wind);
        demandShape(kind, halves);
        runTillBroken(told, wind, kind, halves, torn);
        return trial.leastBroken(torn);
    }

    public int slip(int law, int wind, int halves) throws IndexOutOfBoundsException, IllegalArgumentException {
        Law told = lawNumbered(law);
        demandWind(wind);
        demandShape(TURNS, halves);
        trial.copy(road.deck);
        boolean held = trialGrows(told, wind, TURNS, halves, TRIAL_SIZE, AS_TOLD);
        trial.dropStays();
        boolean free = trialGrows(told, wind, TURNS, halves, TRIAL_SIZE, AS_TOLD);
        return (held ? 1 : 0) + (free ? 2 : 0);
    }

    // ---- film

    public int film(int tick, int piece, int height, int turn)
            throws NoSuchElementException, IllegalArgumentException {
        demandPiece(piece);
        demand(within(tick, 1, LONG_TICKS));
        demand(within(height, -MOST_FAR, MOST_FAR) && within(turn, -MOST_FAR, MOST_FAR));
        return road.film.add(tick, piece, height, turn);
    }

    public int barred(int law, int wind, int kind, int halves, int size, int far)
            throws IndexOutOfBoundsException, IllegalArgumentException {
        Law told = lawNumbered(law);
        demandWind(wind);
        demandShape(kind, halves);
        demand(within(size, 1, MOST_SHAPE) && within(far, 0, MOST_FAR));
        trial.copy(road.deck);
        trial.begin(kind, halves, size);
        int found = NONE;
        for (int t = 1; t <= LONG_TICKS; t++) {
            trial.tick(told, wind, AS_TOLD);
            int row = road.film.firstRowOff(t, trial, far);
            if (row != NONE && (found == NONE || row < found)) {
                found = row;
            }
        }
        return found;
    }

    // ---- mends

    public int mend(int which, int v, int cost) throws IllegalArgumentException {
        demand(within(which, 0, NUMBER_KINDS - 1));
        demand(within(v, -MOST_MEND, MOST_MEND) && within(cost, 0, MOST_COST));
        return road.mends.add(which, v, cost);
    }

    public boolean calm(int law, int wind) throws IndexOutOfBoundsException, IllegalArgumentException {
        Law told = lawNumbered(law);
        demandWind(wind);
        trial.copy(road.deck);
        return trialIsCalmUpTo(told, wind, wind) == wind;
    }

    public int mended(int law, int wind) throws IndexOutOfBoundsException, IllegalArgumentException {
        Law told = lawNumbered(law);
        demandWind(wind);
        int best = NONE;
        int bestCost = 0;
        for (int bits = 0; bits < 1 << road.mends.count; bits++) {
            int cost = road.mends.costOf(bits);
            if (best == NONE || cost < bestCost) {
                trial.copy(road.deck);
                road.mends.makeAll(bits, trial);
                if (trialIsCalmUpTo(told, wind, wind) == wind) {
                    best = bits;
                    bestCost = cost;
                }
            }
        }
        return best;
    }

    public int week(int law, int day) throws IndexOutOfBoundsException, IllegalArgumentException {
        Law told = lawNumbered(law);
        demand(day >= 0);
        if (day >= road.mends.count) {
            return NONE;
        }
        built.copy(road.deck);
        int made = 0;
        int chosen = NONE;
        for (int d = 0; d <= day; d++) {
            chosen = bestMend(told, made);
            road.mends.make(chosen, built);
            made |= 1 << chosen;
        }
        return chosen;
    }

    // ---- models, bridges, papers

    public int span(int law, int kind, int halves, int s, boolean most)
            throws IndexOutOfBoundsException, IllegalArgumentException {
        Law told = lawNumbered(law);
        demandShape(kind, halves);
        demand(within(s, 0, MOST_SPAN));
        trial.copy(road.deck);
        int less = lineBy(told, kind, halves, AS_TOLD - s);
        int asTold = lineBy(told, kind, halves, AS_TOLD);
        int more = lineBy(told, kind, halves, AS_TOLD + s);
        if (most) {
            return Math.max(less, Math.max(asTold, more));
        }
        return leastLine(less, leastLine(asTold, more));
    }

    public int bridge(int line) throws IllegalArgumentException {
        demand(within(line, 0, MOST_LINE));
        return road.bridges.add(line);
    }

    public int blows(int bridge, int k, int hours) throws NoSuchElementException, IllegalArgumentException {
        demandBridge(bridge);
        demand(within(k, 0, Bridges.WIND_KINDS - 1) && within(hours, 0, Bridges.MOST_HOURS));
        return road.bridges.change(bridge, k, hours);
    }

    public int hours(int bridge) throws NoSuchElementException {
        demandBridge(bridge);
        return road.bridges.hoursOf(bridge);
    }

    public int paper(int day, int tells, int rests) throws IllegalArgumentException {
        demand(within(day, 0, MOST_DAY) && within(tells, 0, ALL_BITS) && within(rests, 0, ALL_BITS));
        return road.papers.add(day, tells, rests);
    }

    public int known(int day) throws IllegalArgumentException {
        demand(within(day, 0, MOST_DAY));
        return road.papers.knownOn(day);
    }

    public int could(int bits) throws IllegalArgumentException {
        demand(within(bits, 0, ALL_BITS));
        return road.papers.firstDayOf(bits);
    }

    public int shut(int law, int wind, int kind, int halves, int size, int above)
            throws IndexOutOfBoundsException, IllegalArgumentException {
        Law told = lawNumbered(law);
        demandWind(wind);
        demandShape(kind, halves);
        demand(within(size, 1, MOST_SHAPE) && within(above, 0, MOST_FAR));
        trial.copy(road.deck);
        trial.begin(kind, halves, size);
        for (int t = 1; t <= LONG_TICKS; t++) {
            trial.tick(told, wind, AS_TOLD);
            if (trial.size(kind) > above) {
                return t;
            }
        }
        return NONE;
    }

    // ---- images, counts

    public int image() {
        Road free = imageCount >= 0 && imageCount < images.length ? images[imageCount] : null;
        if (free == null) {
            return -1;
        }
        free.copy(road);
        imageCount++;
        return imageCount;
    }

    public int restore() {
        Road latest = imageCount > 0 && imageCount <= images.length ? images[imageCount - 1] : null;
        if (latest == null) {
            return -1;
        }
        road.copy(latest);
        imageCount--;
        return imageCount;
    }

    public int count(int what) {
        if (within(what, 20, 20 + NUMBER_KINDS - 1)) {
            return road.deck.numbers.at(what - 20);
        }
        switch (what) {
            case 0: return road.deck.pieces;
            case 1: return lawCount;
            case 2: return road.deck.ticks;
            case 3: return road.film.count;
            case 4: return road.mends.count;
            case 5: return road.bridges.count;
            case 6: return road.papers.count;
            case 7: return imageCount;
            case 8: return tapeBytes;
            case 9: return road.deck.broken(false);
            case 10: return road.deck.broken(true);
            default: return NONE;
        }
    }

    // ---- what the calls demand

    private static boolean within(int v, int least, int most) {
        return v >= least && v <= most;
    }

    private static void demand(boolean holds) {
        if (!holds) {
            throw new IllegalArgumentException("a number is out of its bounds");
        }
    }

    private static void demandWind(int wind) {
        demand(within(wind, 0, MOST_WIND));
    }

    private static void demandShape(int kind, int halves) {
        demand(within(kind, HEIGHTS, TURNS) && within(halves, 1, MOST_HALVES));
    }

    private void demandPiece(int piece) {
        if (!within(piece, 0, road.deck.pieces - 1)) {
            throw new NoSuchElementException("no such piece");
        }
    }

    private void demandBridge(int bridge) {
        if (!within(bridge, 0, road.bridges.count - 1)) {
            throw new NoSuchElementException("no such bridge");
        }
    }

    private Law lawNumbered(int law) {
        Law found = law >= 0 && law < lawCount && law < laws.length ? laws[law] : null;
        if (found == null) {
            throw new IndexOutOfBoundsException("no such law");
        }
        return found;
    }

    // ---- work of the calls

    private void putOnTape(int number) {
        for (int shift = 24; shift >= 0; shift -= 8) {
            tape.put(tapeBytes, number >>> shift & 255);
            tapeBytes++;
        }
    }

    /** Whether a shape grows on the deck that trial is; its numbers, pieces and stays stay. */
    private boolean trialGrows(Law law, int wind, int kind, int halves, int size, int hundredths) {
        trial.begin(kind, halves, size);
        int early = 0;
        for (int t = 1; t <= TRIAL_TICKS; t++) {
            trial.tick(law, wind, hundredths);
            int reach = trial.size(kind);
            if (t <= EARLY_TICKS) {
                early = Math.max(early, reach);
            } else if (reach > early) {
                return true;
            }
        }
        return false;
    }

    private int lineBy(Law law, int kind, int halves, int hundredths) {
        for (int wind = 0; wind <= MOST_LINE; wind++) {
            if (trialGrows(law, wind, kind, halves, TRIAL_SIZE, hundredths)) {
                return wind;
            }
        }
        return NONE;
    }

    private static int leastLine(int a, int b) {
        if (a == NONE || b == NONE) {
            return Math.max(a, b);
        }
        return Math.min(a, b);
    }

    /** Runs a trial up to the first tick behind which a stay slipped (a link tore): that tick. */
    private int runTillBroken(Law law, int wind, int kind, int halves, boolean torn) {
        trial.copy(road.deck);
        trial.begin(kind, halves, TRIAL_SIZE);
        for (int t = 1; t <= TRIAL_TICKS; t++) {
            trial.tick(law, wind, AS_TOLD);
            if (trial.leastBroken(torn) != NONE) {
                return t;
            }
        }
        return NONE;
    }

    /** The greatest wind up to which the trial deck is calm at all from one on; one less than that if at none. */
    private int trialIsCalmUpTo(Law law, int from, int most) {
        for (int wind = from; wind <= most; wind++) {
            for (int k = 0; k < CALM_SHAPES; k++) {
                int kind = k % 2 == 0 ? HEIGHTS : TURNS;
                if (trialGrows(law, wind, kind, 1 + k / 2, TRIAL_SIZE, AS_TOLD)) {
                    return wind - 1;
                }
            }
        }
        return most;
    }

    /** Of the mends that are not among those made, the best for the next day of the week. */
    private int bestMend(Law law, int made) {
        int best = NONE;
        int bestWind = NONE;
        // what is calm as far as winds are tried can't be beaten, and the first of the best is due
        for (int k = 0; k < road.mends.count && bestWind < MOST_CALM_WIND; k++) {
            if ((made >> k & 1) == 0) {
                trial.copy(built);
                road.mends.make(k, trial);
                int wind = trialIsCalmUpTo(law, 0, MOST_CALM_WIND);
                if (best == NONE || wind > bestWind) {
                    best = k;
                    bestWind = wind;
                }
            }
        }
        return best;
    }

    private static int leastOf(int which) {
        return which >= 0 && which < NUMBERS_LEAST.length ? NUMBERS_LEAST[which] : 0;
    }

    private static int mostOf(int which) {
        return which >= 0 && which < NUMBERS_MOST.length ? NUMBERS_MOST[which] : 0;
    }

    private static int bounded(int v, int least, int most) {
        return Math.max(least, Math.min(most, v));
    }

    // ---- classes inside

    /** Numbers by index, 0 beyond both ends: so no index, whoever comes with it, makes the machine throw. */
    private static final class Row {
        private final int[] cells;

        Row(int length) {
            cells = new int[Math.max(0, length)];
        }

        int at(int i) {
            return i >= 0 && i < cells.length ? cells[i] : 0;
        }

        void put(int i, int v) {
            if (i >= 0 && i < cells.length) {
                cells[i] = v;
            }
        }

        void fill(int v) {
            for (int i = 0; i < cells.length; i++) {
                cells[i] = v;
            }
        }

        void copy(Row other) {
            for (int i = 0; i < cells.length && i < other.cells.length; i++) {
                cells[i] = other.cells[i];
            }
        }
    }

    /** A text cut into tokens; what can stand where is the Reader's matter. The last is END. */
    private static final class Tokens {
        final int[] kinds = new int[MOST_TAPE + 1];
        final int[] starts = new int[MOST_TAPE + 1];
        final int[] values = new int[MOST_TAPE + 1];
        private int count;

        void scan(Row text, int n) {
            count = 0;
            int at = 0;
            for (int k = 0; k < MOST_TAPE && at < n; k++) {
                if (text.at(at) == ' ') {
                    at++;
                } else {
                    at = scanOne(text, at, n);
                }
            }
            add(END, n, 0);
        }

        /** Adds the token that starts at a byte; answers where it ends. */
        private int scanOne(Row text, int start, int n) {
            int kind = text.at(start);
            int value = 0;
            int end = start + 1;
            if (isDigit(kind)) {
                value = kind - '0';
                while (end < n && isDigit(text.at(end))) {
                    // held just above what is allowed, so that no count of digits wraps
                    value = Math.min(Reader.MOST_NUMBER + 1, value * 10 + text.at(end) - '0');
                    end++;
                }
                kind = NUMBER;
            } else if (isLetter(kind)) {
                while (end < n && isLetter(text.at(end))) {
                    end++;
                }
                kind = wordAt(text, start, end);
            }
            add(kind, start, value);
            return end;
        }

        private void add(int kind, int start, int value) {
            if (count >= 0 && count < kinds.length && count < starts.length && count < values.length) {
                kinds[count] = kind;
                starts[count] = start;
                values[count] = value;
                count++;
            }
        }

        private static boolean isDigit(int sign) {
            return sign >= '0' && sign <= '9';
        }

        private static boolean isLetter(int sign) {
            return sign >= 'a' && sign <= 'z';
        }

        private static int wordAt(Row text, int start, int end) {
            int word = NAMES;
            int at = start;
            boolean same = true;
            for (int k = 0; k < WORDS.length(); k++) {
                char sign = WORDS.charAt(k);
                if (sign != ' ') {
                    same = same && at < end && text.at(at) == sign;
                    at++;
                } else if (same && at == end) {
                    return word;
                } else {
                    word++;
                    at = start;
                    same = true;
                }
            }
            return NO_WORD;
        }
    }

    /**
     * Reads a text as a law: steps in the order in which a stack works them, or the first fault.
     * Behind a fault the token is AFTER_FAULT, which can stand nowhere: so all comes to an end.
     */
    private static final class Reader {
        static final int MOST_NUMBER = 9_999;
        static final int MOST_CLAUSES = 12;
        static final int MOST_OPEN = 6;

        final Row steps = new Row(MOST_TAPE);
        int length;
        int fault;
        int place;
        private final Tokens tokens = new Tokens();
        private int next;
        private int token;
        private int start;
        private int value;

        void read(Row text, int n) {
            tokens.scan(text, n);
            length = 0;
            fault = 0;
            place = NONE;
            next = -1;
            step();
            for (int k = 0; k <= MOST_CLAUSES && token != END && token != AFTER_FAULT; k++) {
                int kind = token;
                if (kind != LIFT && kind != TWIST) {
                    fail(CANT_STAND);
                } else if (k == MOST_CLAUSES) {
                    fail(TOO_MANY);
                } else {
                    step();
                    sum(0);
                    if (token == IF) {
                        step();
                        condition(0);
                        emit(IF);
                    }
                    expect(';');
                    emit(kind);
                }
            }
        }

        /** E, with its T: open is how many of ( [ and not are open around it. */
        private void sum(int open) {
            int joint = NONE;
            for (int t = 0; t < MOST_TAPE; t++) {
                factor(open);
                for (int u = 0; u < MOST_TAPE && (token == '*' || token == '/'); u++) {
                    int kind = token;
                    step();
                    factor(open);
                    emit(kind);
                }
                if (joint != NONE) {
                    emit(joint);
                }
                if (token != '+' && token != '-') {
                    return;
                }
                joint = token;
                step();
            }
        }

        /** U. */
        private void factor(int open) {
            int kind = token;
            if (kind == NUMBER && value > MOST_NUMBER) {
                fail(TOO_GREAT);
            } else if (kind == NUMBER) {
                emit(CONSTANTS + value);
                step();
            } else if (kind >= NAMES && kind < NAMES + NAME_KINDS) {
                emit(kind);
                step();
            } else if (kind == LEAST || kind == MOST || kind == SIGN || kind == '(') {
                if (kind != '(') {
                    step();
                }
                if (enters('(', open)) {
                    sum(open + 1);
                    if (kind == LEAST || kind == MOST) {
                        expect(',');
                        sum(open + 1);
                    }
                    expect(')');
                    if (kind != '(') {
                        emit(kind);
                    }
                }
            } else {
                fail(CANT_STAND);
            }
        }

        /** C, with its A. */
        private void condition(int open) {
            boolean joined = false;
            for (int t = 0; t < MOST_TAPE; t++) {
                comparison(open);
                for (int u = 0; u < MOST_TAPE && token == AND; u++) {
                    step();
                    comparison(open);
                    emit(AND);
                }
                if (joined) {
                    emit(OR);
                }
                if (token != OR) {
                    return;
                }
                joined = true;
                step();
            }
        }

        /** B. */
        private void comparison(int open) {
            if (token == NOT) {
                if (enters(NOT, open)) {
                    comparison(open + 1);
                    emit(NOT);
                }
            } else if (token == '[') {
                if (enters('[', open)) {
                    condition(open + 1);
                    expect(']');
                }
            } else {
                sum(open);
                int kind = token;
                if (kind == '<' || kind == '>' || kind == '=') {
                    step();
                    sum(open);
                    emit(kind);
                } else {
                    fail(CANT_STAND);
                }
            }
        }

        /** Opens one more of ( [ and not, unless too many are open: none is read deeper than that. */
        private boolean enters(int kind, int open) {
            if (token != kind) {
                fail(CANT_STAND);
                return false;
            }
            if (open >= MOST_OPEN) {
                fail(TOO_MANY);
                return false;
            }
            step();
            return true;
        }

        private void expect(int kind) {
            if (token == kind) {
                step();
            } else {
                fail(CANT_STAND);
            }
        }

        private void step() {
            next++;
            token = next >= 0 && next < tokens.kinds.length ? tokens.kinds[next] : END;
            start = next >= 0 && next < tokens.starts.length ? tokens.starts[next] : 0;
            value = next >= 0 && next < tokens.values.length ? tokens.values[next] : 0;
        }

        private void emit(int step) {
            steps.put(length, step);
            length++;
        }

        /** Only the first fault counts: what is read behind it follows from it. */
        private void fail(int kind) {
            if (fault == 0) {
                fault = kind;
                place = start;
                token = AFTER_FAULT;
            }
        }
    }

    /** A law that was read: its steps, and what they told when they were worked last. */
    private static final class Law {
        static final int MOST_TOLD = 100_000;

        int lift;
        int twist;
        private final Row steps = new Row(MOST_TAPE);
        private final Row stack = new Row(MOST_TAPE);
        private int length;

        void take(Row read, int many) {
            steps.copy(read);
            length = many;
        }

        void work(Row names) {
            int lifts = 0;
            int twists = 0;
            int top = 0;
            for (int k = 0; k < length && k < MOST_TAPE; k++) {
                int step = steps.at(k);
                int last = stack.at(top - 1);
                if (step >= CONSTANTS) {
                    stack.put(top, step - CONSTANTS);
                    top++;
                } else if (step >= NAMES && step < NAMES + NAME_KINDS) {
                    stack.put(top, names.at(step - NAMES));
                    top++;
                } else if (step == LIFT) {
                    lifts += last;
                    top = 0;
                } else if (step == TWIST) {
                    twists += last;
                    top = 0;
                } else if (step == NOT) {
                    stack.put(top - 1, 1 - last);
                } else if (step == SIGN) {
                    stack.put(top - 1, last > 0 ? 1 : last < 0 ? -1 : 0);
                } else {
                    top--;
                    stack.put(top - 1, ofTwo(step, stack.at(top - 1), last));
                }
            }
            lift = bounded(lifts, -MOST_TOLD, MOST_TOLD);
            twist = bounded(twists, -MOST_TOLD, MOST_TOLD);
        }

        /** IF is a step of two as well: a clause whose condition fails tells 0, which adds nothing. */
        private static int ofTwo(int step, int a, int b) {
            switch (step) {
                case '+': return a + b;
                case '-': return a - b;
                case '*': return a * b;
                case '/': return b == 0 ? 0 : a / b;
                case '<': return a < b ? 1 : 0;
                case '>': return a > b ? 1 : 0;
                case '=': return a == b ? 1 : 0;
                case AND: return a & b;
                case OR: return a | b;
                case LEAST: return Math.min(a, b);
                case MOST: return Math.max(a, b);
                case IF: return b == 0 ? 0 : a;
                default: return 0;
            }
        }
    }

    /** A deck: its numbers, its pieces, how many ticks there were. */
    private static final class Deck {
        static final int LEAST_PIECES = 2;
        static final int MOST_PIECES = 8;
        static final int FIRST_PIECES = 4;
        static final int MOST_REACH = 1_000_000;

        int pieces;
        int ticks;
        final Row numbers = new Row(NUMBER_KINDS);
        final Row heights = new Row(MOST_PIECES);
        final Row turns = new Row(MOST_PIECES);
        final Row ups = new Row(MOST_PIECES);
        final Row spins = new Row(MOST_PIECES);
        final Row stays = new Row(MOST_PIECES);
        /** 1 of a piece whose link to the next is torn. */
        final Row torn = new Row(MOST_PIECES);
        private final Row names = new Row(NAME_KINDS);

        Deck() {
            for (int which = 0; which < NUMBERS_AT_FIRST.length; which++) {
                numbers.put(which, NUMBERS_AT_FIRST[which]);
            }
            lay(FIRST_PIECES);
        }

        void lay(int n) {
            pieces = n;
            ticks = 0;
            still();
            stays.fill(HOLDS);
            torn.fill(0);
        }

        void copy(Deck other) {
            pieces = other.pieces;
            ticks = other.ticks;
            numbers.copy(other.numbers);
            heights.copy(other.heights);
            turns.copy(other.turns);
            ups.copy(other.ups);
            spins.copy(other.spins);
            stays.copy(other.stays);
            torn.copy(other.torn);
        }

        /** As a trial begins: nothing slipped or torn, no ticks, a shape. */
        void begin(int kind, int halves, int size) {
            for (int i = 0; i < pieces; i++) {
                if (stays.at(i) == SLIPPED) {
                    stays.put(i, HOLDS);
                }
            }
            torn.fill(0);
            ticks = 0;
            takeShape(kind, halves, size);
        }

        void dropStays() {
            stays.fill(NO_STAY);
        }

        void takeShape(int kind, int halves, int size) {
            still();
            Row bent = kind == HEIGHTS ? heights : turns;
            for (int i = 0; i < pieces; i++) {
                int half = i * halves / Math.max(1, pieces);
                bent.put(i, half % 2 == 0 ? size : -size);
            }
        }

        private void still() {
            heights.fill(0);
            turns.fill(0);
            ups.fill(0);
            spins.fill(0);
        }

        int size(int kind) {
            Row bent = kind == HEIGHTS ? heights : turns;
            int greatest = 0;
            for (int i = 0; i < pieces; i++) {
                greatest = Math.max(greatest, Math.abs(bent.at(i)));
            }
            return greatest;
        }

        /** A number becomes so much more, within its bounds. */
        void change(int which, int more) {
            numbers.put(which, bounded(numbers.at(which) + more, leastOf(which), mostOf(which)));
        }

        /** What the names in a law are for a piece, in the order of WORDS. */
        Row namesOf(int piece, int wind) {
            names.put(0, wind);
            names.put(1, ticks);
            names.put(2, heights.at(piece));
            names.put(3, turns.at(piece));
            names.put(4, ups.at(piece));
            names.put(5, spins.at(piece));
            names.put(6, numbers.at(SIDE));
            names.put(7, numbers.at(HOLES));
            names.put(8, piece);
            return names;
        }

        /** hundredths: how much of what the law tells comes (100, but in models). */
        void tick(Law law, int wind, int hundredths) {
            // Speeds of neighbours are never read: so new speeds may stand in the same rows,
            // as long as no piece moves before all have theirs.
            for (int i = 0; i < pieces; i++) {
                law.work(namesOf(i, wind));
                int clamp = stays.at(i) == HOLDS ? numbers.at(CLAMP) : 0;
                int pull = pullOf(heights, i, numbers.at(STIFF), numbers.at(HANG));
                int twistPull = pullOf(turns, i, numbers.at(TWISTING), clamp);
                ups.put(i, faster(ups.at(i), pull, law.lift * hundredths / 100));
                spins.put(i, faster(spins.at(i), twistPull, law.twist * hundredths / 100));
            }
            for (int i = 0; i < pieces; i++) {
                heights.put(i, reach(heights.at(i) + ups.at(i)));
                turns.put(i, reach(turns.at(i) + spins.at(i)));
            }
            ticks++;
            breakWhatGives();
        }

        /** stiff pulls to the neighbours, back pulls to 0. */
        private int pullOf(Row bent, int i, int stiff, int back) {
            int own = bent.at(i);
            int before = i == 0 ? 0 : torn.at(i - 1) == 1 ? own : bent.at(i - 1);
            int behind = i == pieces - 1 ? 0 : torn.at(i) == 1 ? own : bent.at(i + 1);
            return stiff * (before + behind - 2 * own) - back * own;
        }

        private int faster(int speed, int pull, int push) {
            int mass = Math.max(1, numbers.at(MASS));
            return reach(speed + (pull / 10 + push) / mass - numbers.at(LOSS) * speed / 100);
        }

        private static int reach(int v) {
            return v > MOST_REACH ? MOST_REACH : v < -MOST_REACH ? -MOST_REACH : v;
        }

        private void breakWhatGives() {
            int strong = numbers.at(STRONG);
            for (int i = 0; i < pieces; i++) {
                int turn = turns.at(i);
                if (stays.at(i) == HOLDS && Math.abs(turn) > numbers.at(GRIP)) {
                    stays.put(i, SLIPPED);
                }
                if (strong != 0 && i < pieces - 1 && Math.abs(turn - turns.at(i + 1)) > strong) {
                    torn.put(i, 1);
                }
            }
        }

        /** The least piece whose stay slipped (or the link behind which is torn). */
        int leastBroken(boolean link) {
            for (int i = 0; i < pieces; i++) {
                if (isBroken(i, link)) {
                    return i;
                }
            }
            return NONE;
        }

        int broken(boolean link) {
            int many = 0;
            for (int i = 0; i < pieces; i++) {
                many += isBroken(i, link) ? 1 : 0;
            }
            return many;
        }

        private boolean isBroken(int i, boolean link) {
            return link ? torn.at(i) == 1 : stays.at(i) == SLIPPED;
        }
    }

    /** What was seen: rows of a tick, a piece, its height, its turn. */
    private static final class Film {
        static final int MOST_ROWS = 20;

        int count;
        private final Row ticks = new Row(MOST_ROWS);
        private final Row pieces = new Row(MOST_ROWS);
        private final Row heights = new Row(MOST_ROWS);
        private final Row turns = new Row(MOST_ROWS);

        int add(int tick, int piece, int height, int turn) {
            if (count >= MOST_ROWS) {
                return -1;
            }
            ticks.put(count, tick);
            pieces.put(count, piece);
            heights.put(count, height);
            turns.put(count, turn);
            count++;
            return count;
        }

        /** Of the rows of a tick the first that is farther than told from a deck behind that tick. */
        int firstRowOff(int tick, Deck deck, int far) {
            for (int k = 0; k < count && k < MOST_ROWS; k++) {
                int piece = pieces.at(k);
                if (ticks.at(k) == tick && piece < deck.pieces) {
                    int high = Math.abs(heights.at(k) - deck.heights.at(piece));
                    int turned = Math.abs(turns.at(k) - deck.turns.at(piece));
                    if (high > far || turned > far) {
                        return k;
                    }
                }
            }
            return NONE;
        }

        void copy(Film other) {
            count = other.count;
            ticks.copy(other.ticks);
            pieces.copy(other.pieces);
            heights.copy(other.heights);
            turns.copy(other.turns);
        }
    }

    /** Mends: which number becomes how much more, at what cost. */
    private static final class Mends {
        static final int MOST_MENDS = 5;

        int count;
        private final Row numbers = new Row(MOST_MENDS);
        private final Row more = new Row(MOST_MENDS);
        private final Row costs = new Row(MOST_MENDS);

        int add(int which, int v, int cost) {
            if (count >= MOST_MENDS) {
                return -1;
            }
            numbers.put(count, which);
            more.put(count, v);
            costs.put(count, cost);
            count++;
            return count - 1;
        }

        int costOf(int bits) {
            int cost = 0;
            for (int k = 0; k < count && k < MOST_MENDS; k++) {
                cost += (bits >> k & 1) * costs.at(k);
            }
            return cost;
        }

        void make(int k, Deck deck) {
            deck.change(numbers.at(k), more.at(k));
        }

        void makeAll(int bits, Deck deck) {
            for (int k = 0; k < count && k < MOST_MENDS; k++) {
                if ((bits >> k & 1) == 1) {
                    make(k, deck);
                }
            }
        }

        void copy(Mends other) {
            count = other.count;
            numbers.copy(other.numbers);
            more.copy(other.more);
            costs.copy(other.costs);
        }
    }

    /** Other bridges: the line of each, and the hours of its winds, ten of each in one row. */
    private static final class Bridges {
        static final int MOST_BRIDGES = 6;
        static final int WIND_KINDS = 10;
        static final int WINDS_OF_A_KIND = 6;
        static final int MOST_HOURS = 999;

        int count;
        private final Row lines = new Row(MOST_BRIDGES);
        private final Row hours = new Row(MOST_BRIDGES * WIND_KINDS);

        int add(int line) {
            if (count >= MOST_BRIDGES) {
                return -1;
            }
            lines.put(count, line);
            for (int k = 0; k < WIND_KINDS; k++) {
                hours.put(count * WIND_KINDS + k, 0);
            }
            count++;
            return count - 1;
        }

        int change(int bridge, int k, int v) {
            int was = hours.at(bridge * WIND_KINDS + k);
            hours.put(bridge * WIND_KINDS + k, v);
            return was;
        }

        int hoursOf(int bridge) {
            int together = 0;
            for (int k = 0; k < WIND_KINDS; k++) {
                if (k * WINDS_OF_A_KIND >= lines.at(bridge)) {
                    together += hours.at(bridge * WIND_KINDS + k);
                }
            }
            return together;
        }

        void copy(Bridges other) {
            count = other.count;
            lines.copy(other.lines);
            hours.copy(other.hours);
        }
    }

    /** Papers: from when on each can be read, what it tells, on what it rests. */
    private static final class Papers {
        static final int MOST_PAPERS = 10;

        int count;
        private final Row days = new Row(MOST_PAPERS);
        private final Row tells = new Row(MOST_PAPERS);
        private final Row rests = new Row(MOST_PAPERS);

        int add(int day, int told, int restsOn) {
            if (count >= MOST_PAPERS) {
                return -1;
            }
            days.put(count, day);
            tells.put(count, told);
            rests.put(count, restsOn);
            count++;
            return count;
        }

        int knownOn(int day) {
            int bits = 0;
            // one paper may open another ahead of it: as many rounds as papers reach them all
            for (int round = 0; round < count && round < MOST_PAPERS; round++) {
                for (int k = 0; k < count && k < MOST_PAPERS; k++) {
                    if (days.at(k) <= day && (rests.at(k) & ~bits) == 0) {
                        bits |= tells.at(k);
                    }
                }
            }
            return bits;
        }

        /** What is known changes on the days of papers alone: so day 0 and these are enough. */
        int firstDayOf(int bits) {
            if ((bits & ~knownOn(0)) == 0) {
                return 0;
            }
            int found = NONE;
            for (int k = 0; k < count && k < MOST_PAPERS; k++) {
                int day = days.at(k);
                if ((found == NONE || day < found) && (bits & ~knownOn(day)) == 0) {
                    found = day;
                }
            }
            return found;
        }

        void copy(Papers other) {
            count = other.count;
            days.copy(other.days);
            tells.copy(other.tells);
            rests.copy(other.rests);
        }
    }

    /** All that an image holds. */
    private static final class Road {
        final Deck deck = new Deck();
        final Film film = new Film();
        final Mends mends = new Mends();
        final Bridges bridges = new Bridges();
        final Papers papers = new Papers();

        void copy(Road other) {
            deck.copy(other.deck);
            film.copy(other.film);
            mends.copy(other.mends);
            bridges.copy(other.bridges);
            papers.copy(other.papers);
        }
    }
}
