import java.util.Arrays;
import java.util.NoSuchElementException;

/** A town of bakers and buyers in which leaving costs a morning. README.md tells how to use it. */
public final class StayHouse {
    public static final int NONE = -1;

    private static final int NOBODY = -2;
    private static final int NO_INT = -2147483648;
    private static final long NO_LONG = -9223372036854775808L;
    private static final int NO_MOVE = -1000;

    private static final int FINE = 0;
    private static final int NO_SUCH = 1;
    private static final int NUMBER = 2;
    private static final int NO_ROOM = 3;
    private static final int FAULTY = 4;
    private static final int NOT_SO = 5;
    private static final int NOTHING = 6;

    private static final int TAPE = 700;
    private static final int FED = 20;
    private static final int BAKERS = 3;
    private static final int SORTS = 4;
    private static final int STEPS = 3;
    private static final int SEATS = BAKERS * SORTS;
    private static final int MOST_HELD = 9999;
    private static final int MOST_COSTS = 99;
    private static final int SEEDS = 65537;
    private static final int MOST_GO = 10;
    private static final int MOST_YEARS = 40;
    private static final int MOST_AHEAD = 3;
    private static final int MOST_ACTS = 729;
    private static final int MOST_LOOKED_AT = 20000;

    private static final int AS_TOLD = 0;
    private static final int ONE_PRICE = 1;
    private static final int LEAVING_HALF = 2;
    private static final int NO_LEAVING = 3;
    private static final int ALL_FAR = 4;
    private static final int ALL_NEAR = 5;

    /** Where a new one comes from, and where one goes that chooses none. */
    private static final int NO_BAKER = BAKERS;
    /** Kinds of buyers of a sort: those held by baker 0, 1, 2, then new ones by how they look. */
    private static final int NEW_NEAR = BAKERS;
    private static final int NEW_FAR = BAKERS + 1;
    private static final int KINDS = BAKERS + 2;

    private final byte[] tape = new byte[TAPE];
    private int fed = 0;
    private final Reader reader = new Reader();
    private final Town draft = new Town();
    private final Year year = new Year();
    private final Market market = year.market;
    private final Town town = market.town;
    private final Chronicle chronicle = new Chronicle();
    private final int[] choices = new int[SORTS];
    private final Rest rest = new Rest();
    private final Outcome outcome = new Outcome();
    private int trouble = FINE;
    private int fault = 0;
    private int place = NONE;

    public StayHouse() {
    }

    // ---- the town

    public int feed(int a, int b, int c, int d, int e) {
        if (fed + FED > TAPE) {
            return NONE;
        }
        putBytes(a);
        putBytes(b);
        putBytes(c);
        putBytes(d);
        putBytes(e);
        return fed;
    }

    private void putBytes(int number) {
        for (int shift = 24; shift >= 0 && fed < TAPE; shift -= 8) {
            tape[fed] = (byte) (number >> shift);
            fed++;
        }
    }

    public int town(int n) {
        if (n < 0 || n > fed) {
            trouble = NUMBER;
            return NONE;
        }
        fault = reader.read(tape, n, draft);
        place = reader.place;
        fed = 0;
        if (fault != 0) {
            trouble = FAULTY;
            return NONE;
        }
        trouble = FINE;
        town.copyOf(draft);
        chronicle.clear();
        outcome.known = false;
        return town.bakers;
    }

    public int fault() {
        return fault;
    }

    public int where() {
        return trouble == FAULTY ? place : NONE;
    }

    // ---- choices and years

    public boolean hold(int baker, int sort, int n) {
        if (!isBaker(baker) || !isSort(sort)) {
            trouble = NO_SUCH;
            return false;
        }
        if (n < 0 || n > MOST_HELD) {
            trouble = NUMBER;
            return false;
        }
        trouble = FINE;
        chronicle.held[chronicle.seat(baker, sort)] = n;
        return true;
    }

    public boolean ask(int baker, int old, int fresh) {
        if (!isBaker(baker)) {
            trouble = NO_SUCH;
            return false;
        }
        if (!isStep(old) || !isStep(fresh)) {
            trouble = NUMBER;
            return false;
        }
        if (town.two == 0 && fresh != old) {
            trouble = NOT_SO;
            return false;
        }
        trouble = FINE;
        chronicle.oldStep[chronicle.counter(baker)] = old;
        chronicle.newStep[chronicle.counter(baker)] = fresh;
        return true;
    }

    public int choose(int baker, int sort) {
        if (!isBuyer(baker, sort)) {
            trouble = NO_SUCH;
            return NONE;
        }
        trouble = FINE;
        openMarket();
        market.turnTo(sort);
        int to = market.choice(home(baker), town.far[sort] == 1);
        return to == NO_BAKER ? NOBODY : to;
    }

    public int has(int baker, int sort, int to) {
        if (!isBuyer(baker, sort) || to != NOBODY && !isBaker(to)) {
            trouble = NO_SUCH;
            return NO_INT;
        }
        trouble = FINE;
        openMarket();
        market.turnTo(sort);
        return market.hasOf(home(baker), to == NOBODY ? NO_BAKER : to, town.far[sort] == 1);
    }

    public boolean seed(int v) {
        if (!isTown()) {
            trouble = NO_SUCH;
            return false;
        }
        if (v < 0 || v >= SEEDS) {
            trouble = NUMBER;
            return false;
        }
        trouble = FINE;
        chronicle.seeds[chronicle.years] = v;
        return true;
    }

    public int go(int n) {
        if (!isTown()) {
            trouble = NO_SUCH;
            return NONE;
        }
        if (n < 1 || n > MOST_GO) {
            trouble = NUMBER;
            return NONE;
        }
        if (chronicle.years + n > MOST_YEARS) {
            trouble = NO_ROOM;
            return NONE;
        }
        trouble = FINE;
        openMarket();
        market.chooseAll(choices, 0);
        int left = 0;
        for (int i = 0; i < n; i++) {
            left += passYear();
        }
        return left;
    }

    /** One more year at what is asked: how many left. */
    private int passYear() {
        int seed = chronicle.seeds[chronicle.years];
        for (int s = 0; s < town.sorts; s++) {
            int fresh = town.fresh[s];
            // The draws may end at 0: from there on there is no seed, within a year too.
            if (seed > 0) {
                seed = (75 * seed + 74) % SEEDS;
                fresh = Math.max(0, fresh + seed % 3 - 1);
            }
            year.bring(s, fresh, town.far[s] == 1 ? fresh : 0);
        }
        year.pass(chronicle.held, chronicle.years * SEATS, choices, 0);
        return chronicle.close(year, seed);
    }

    public boolean again(int year) {
        if (!isTown()) {
            trouble = NO_SUCH;
            return false;
        }
        if (year < 0 || year > chronicle.years) {
            trouble = NUMBER;
            return false;
        }
        trouble = FINE;
        chronicle.years = year;
        return true;
    }

    public int held(int baker, int sort) {
        if (!isBaker(baker) || !isSort(sort)) {
            trouble = NO_SUCH;
            return NONE;
        }
        trouble = FINE;
        return chronicle.held[chronicle.seat(baker, sort)];
    }

    public long earned(int baker, int year) {
        if (!isBaker(baker) || year < 0 || year >= chronicle.years) {
            trouble = NO_SUCH;
            return NO_LONG;
        }
        trouble = FINE;
        return chronicle.earned[year * BAKERS + baker];
    }

    // ---- rest

    public int rest(int n) {
        trouble = isTown() ? troubleAhead(n, AS_TOLD) : NO_SUCH;
        if (trouble != FINE) {
            return NONE;
        }
        stage(AS_TOLD, n);
        rest.tabulate(n);
        int acts = rest.settle(n);
        for (int b = 0; b < town.bakers; b++) {
            outcome.oldStep[b] = town.oldStep(rest.actOf(acts, b));
            outcome.newStep[b] = town.newStep(rest.actOf(acts, b));
            outcome.worth[b] = rest.value[n][b];
        }
        outcome.known = true;
        return rest.unsure ? 1 : 0;
    }

    public int act(int baker, int what) {
        trouble = troubleOfOutcome(baker, what);
        if (trouble != FINE) {
            return NONE;
        }
        return what == 0 ? outcome.oldStep[baker] : outcome.newStep[baker];
    }

    public long worth(int baker) {
        trouble = troubleOfOutcome(baker, 0);
        return trouble == FINE ? outcome.worth[baker] : NO_LONG;
    }

    public long gain(int baker) {
        trouble = isBaker(baker) ? FINE : NO_SUCH;
        if (trouble != FINE) {
            return NO_LONG;
        }
        openYear();
        int at = chronicle.counter(baker);
        long now = earnedBy(baker, town.actOf(chronicle.oldStep[at], chronicle.newStep[at]));
        return earnedBy(baker, bestAct(baker)) - now;
    }

    public int best(int baker) {
        trouble = isBaker(baker) ? FINE : NO_SUCH;
        if (trouble != FINE) {
            return NONE;
        }
        openYear();
        int act = bestAct(baker);
        return 10 * town.oldStep(act) + town.newStep(act);
    }

    /** The first act by which a baker earns most in a year alone. */
    private int bestAct(int baker) {
        int best = 0;
        long most = earnedBy(baker, 0);
        for (int act = 1; act < town.acts(); act++) {
            long earned = earnedBy(baker, act);
            if (earned > most) {
                most = earned;
                best = act;
            }
        }
        return best;
    }

    private long earnedBy(int baker, int act) {
        market.setPrices(baker, town.oldStep(act), town.newStep(act));
        market.chooseAll(choices, 0);
        year.pass(chronicle.held, chronicle.years * SEATS, choices, 0);
        return year.earned[baker];
    }

    // ---- laws, promises, those who come late

    public long paid(int sort, int n, int law) {
        trouble = isSort(sort) && isLaw(law) ? troubleAhead(n, law) : NO_SUCH;
        if (trouble != FINE) {
            return NO_LONG;
        }
        return paidByLaw(sort, n, law);
    }

    public long leavings(int sort, int n, int law) {
        trouble = isSort(sort) && isLaw(law) ? troubleAhead(n, law) : NO_SUCH;
        if (trouble != FINE) {
            return NO_LONG;
        }
        stage(law, n);
        rest.follow(n);
        return rest.left[sort];
    }

    public int kindest(int sort, int n) {
        // No law leaves more acts than there are as told, so that none has less room.
        trouble = isSort(sort) ? troubleAhead(n, AS_TOLD) : NO_SUCH;
        if (trouble != FINE) {
            return NONE;
        }
        int kindest = AS_TOLD;
        long least = paidByLaw(sort, n, AS_TOLD);
        for (int law = ONE_PRICE; law <= ALL_NEAR; law++) {
            long paid = paidByLaw(sort, n, law);
            if (paid < least) {
                least = paid;
                kindest = law;
            }
        }
        return kindest;
    }

    private long paidByLaw(int sort, int n, int law) {
        stage(law, n);
        rest.follow(n);
        return rest.paid[sort];
    }

    public long promise(int baker, int step, int n) {
        trouble = !isBaker(baker) ? NO_SUCH : !isStep(step) ? NUMBER : troubleAhead(n, AS_TOLD);
        if (trouble != FINE) {
            return NO_LONG;
        }
        stage(AS_TOLD, n);
        rest.keepBelow(baker, step);
        return worthAtRest(baker, n);
    }

    public long shape(int baker, int other, int n) {
        trouble = isBaker(baker) && isBaker(other) ? troubleAhead(n, AS_TOLD) : NO_SUCH;
        if (trouble != FINE) {
            return NO_LONG;
        }
        return worthOfShape(baker, other, n);
    }

    public int fit(int baker, int n) {
        trouble = isBaker(baker) ? troubleAhead(n, AS_TOLD) : NO_SUCH;
        if (trouble != FINE) {
            return NONE;
        }
        int best = 0;
        long most = worthOfShape(baker, 0, n);
        for (int other = 1; other < town.bakers; other++) {
            long worth = worthOfShape(baker, other, n);
            if (worth > most) {
                most = worth;
                best = other;
            }
        }
        return best;
    }

    private long worthOfShape(int baker, int other, int n) {
        stage(AS_TOLD, n);
        rest.town.fits[baker] = town.fits[other];
        return worthAtRest(baker, n);
    }

    public int late(int baker, int n) {
        trouble = isBaker(baker) ? troubleAhead(n, AS_TOLD) : NO_SUCH;
        if (trouble != FINE) {
            return NONE;
        }
        stage(AS_TOLD, n);
        for (int s = 0; s < SORTS; s++) {
            rest.held[n][baker * SORTS + s] = 0;
        }
        return worthAtRest(baker, n) >= town.enters[baker] ? 1 : 0;
    }

    // ---- luring

    public int lures(int baker, int what) {
        trouble = troubleOfOutcome(baker, what);
        if (trouble != FINE) {
            return NONE;
        }
        if (what == 0) {
            return outcome.newStep[baker] < outcome.oldStep[baker] ? 1 : 0;
        }
        return town.prices[outcome.newStep[baker]] < town.costs[baker] ? 1 : 0;
    }

    public int edge() {
        trouble = isTown() ? FINE : NO_SUCH;
        if (trouble != FINE) {
            return NONE;
        }
        stage(ALL_NEAR, 1);
        rest.tabulate(1);
        for (int f = 0; f <= 100; f++) {
            // The same numbers of far looking ones as before lure as before.
            boolean other = rest.shareNewOnes(f);
            if ((f == 0 || other) && !rest.anyLures()) {
                return f;
            }
        }
        return NOBODY;
    }

    public int change(int baker, int v) {
        if (!isBaker(baker)) {
            trouble = NO_SUCH;
            return NO_MOVE;
        }
        if (v < 0 || v > MOST_COSTS) {
            trouble = NUMBER;
            return NO_MOVE;
        }
        trouble = FINE;
        int moved = v - town.costs[baker];
        town.costs[baker] = v;
        return moved;
    }

    public int led(int i) throws NoSuchElementException {
        int seen = 0;
        for (int y = 0; y < chronicle.years; y++) {
            if (chronicle.left[y] > 0) {
                if (seen == i) {
                    return y;
                }
                seen++;
            }
        }
        throw new NoSuchElementException("no such year");
    }

    public int size(int what) {
        switch (what) {
            case 0: return town.bakers;
            case 1: return town.sorts;
            case 2: return town.steps;
            case 3: return town.two;
            case 4: return town.keep;
            case 5: return chronicle.years;
            case 6: return chronicle.seeds[chronicle.years];
            case 7: return fed;
            case 8: return town.acts();
            default: return NONE;
        }
    }

    public int baker(int b, int what) {
        if (!isBaker(b)) {
            return NONE;
        }
        switch (what) {
            case 0: return town.costs[b];
            case 1: return town.fits[b];
            case 2: return town.enters[b];
            case 3: return chronicle.oldStep[chronicle.counter(b)];
            case 4: return chronicle.newStep[chronicle.counter(b)];
            default: return NONE;
        }
    }

    public int sort(int s, int what) {
        if (!isSort(s)) {
            return NONE;
        }
        switch (what) {
            case 0: return town.fresh[s];
            case 1: return town.worth[s];
            case 2: return town.leaves[s];
            case 3: return town.stays[s];
            case 4: return town.far[s];
            default: return NONE;
        }
    }

    public int trouble() {
        return trouble;
    }

    // ---- what the calls share

    private boolean isTown() {
        return town.bakers > 0;
    }

    private boolean isBaker(int b) {
        return b >= 0 && b < town.bakers;
    }

    private boolean isSort(int s) {
        return s >= 0 && s < town.sorts;
    }

    private boolean isStep(int step) {
        return step >= 0 && step < town.steps;
    }

    private boolean isLaw(int law) {
        return law >= AS_TOLD && law <= ALL_NEAR;
    }

    private boolean isBuyer(int baker, int sort) {
        return (baker == NONE || isBaker(baker)) && isSort(sort);
    }

    private int home(int baker) {
        return baker == NONE ? NO_BAKER : baker;
    }

    /** What stands against a rest over n years by a law: a number, no room, or nothing. */
    private int troubleAhead(int n, int law) {
        if (n < 1 || n > MOST_AHEAD) {
            return NUMBER;
        }
        int acts = law == ONE_PRICE ? town.steps : town.acts();
        int lookedAt = 1;
        for (int i = 0; i < n * town.bakers; i++) {
            lookedAt *= acts;
            if (lookedAt > MOST_LOOKED_AT) {
                return NO_ROOM;
            }
        }
        return FINE;
    }

    private int troubleOfOutcome(int baker, int what) {
        if (!isBaker(baker) || what < 0 || what > 1) {
            return NO_SUCH;
        }
        return outcome.known ? FINE : NOTHING;
    }

    private void openMarket() {
        for (int b = 0; b < town.bakers; b++) {
            int at = chronicle.counter(b);
            market.setPrices(b, chronicle.oldStep[at], chronicle.newStep[at]);
        }
    }

    /** A year at what is asked with as many new ones as told. */
    private void openYear() {
        openMarket();
        year.bringAsTold();
    }

    /** The present town by a law, and who is held now, for a rest over n years. */
    private void stage(int law, int n) {
        rest.stage(town, law);
        System.arraycopy(chronicle.held, chronicle.years * SEATS, rest.held[n], 0, SEATS);
    }

    private long worthAtRest(int baker, int n) {
        rest.tabulate(n);
        rest.settle(n);
        return rest.value[n][baker];
    }

    /** What the text of a town tells. */
    private static final class Town {
        final int[] costs = new int[BAKERS];
        final int[] fits = new int[BAKERS];
        final int[] enters = new int[BAKERS];
        final int[] fresh = new int[SORTS];
        final int[] worth = new int[SORTS];
        final int[] leaves = new int[SORTS];
        final int[] stays = new int[SORTS];
        final int[] far = new int[SORTS];
        final int[] prices = new int[STEPS];
        int bakers = 0;
        int sorts = 0;
        int steps = 0;
        int two = 0;
        int keep = 0;

        void copyOf(Town from) {
            System.arraycopy(from.costs, 0, costs, 0, BAKERS);
            System.arraycopy(from.fits, 0, fits, 0, BAKERS);
            System.arraycopy(from.enters, 0, enters, 0, BAKERS);
            System.arraycopy(from.fresh, 0, fresh, 0, SORTS);
            System.arraycopy(from.worth, 0, worth, 0, SORTS);
            System.arraycopy(from.leaves, 0, leaves, 0, SORTS);
            System.arraycopy(from.stays, 0, stays, 0, SORTS);
            System.arraycopy(from.far, 0, far, 0, SORTS);
            System.arraycopy(from.prices, 0, prices, 0, STEPS);
            bakers = from.bakers;
            sorts = from.sorts;
            steps = from.steps;
            two = from.two;
            keep = from.keep;
        }

        void obey(int law) {
            if (law == ONE_PRICE) {
                two = 0;
            }
            for (int s = 0; s < sorts; s++) {
                if (law == LEAVING_HALF) {
                    leaves[s] = leaves[s] / 2;
                } else if (law == NO_LEAVING) {
                    leaves[s] = 0;
                } else if (law == ALL_FAR) {
                    far[s] = 1;
                } else if (law == ALL_NEAR) {
                    far[s] = 0;
                }
            }
        }

        /** How many acts a baker has. */
        int acts() {
            return two == 1 ? steps * steps : steps;
        }

        int oldStep(int act) {
            return two == 1 && steps > 0 ? act / steps : act;
        }

        int newStep(int act) {
            return two == 1 && steps > 0 ? act % steps : act;
        }

        int actOf(int old, int fresh) {
            return two == 1 ? old * steps + fresh : old;
        }
    }

    /** Reads the text of a town, from the left up to its first fault. */
    private static final class Reader {
        private static final int END = 0;
        private static final int WORD = 1;
        private static final int WHOLE = 2;
        private static final int LINE_END = 3;
        private static final int COMMA = 4;
        private static final int BAD = 5;

        private static final int FORM = 1;
        private static final int TWICE = 3;
        private static final int BOUNDS = 4;
        private static final int MANY = 5;
        private static final int LACKS = 6;

        private static final int LONGEST_WORD = 8;
        private static final int LONGEST_WHOLE = 3;

        int place = NONE;
        private int fault = 0;
        private byte[] text = new byte[0];
        private int end = 0;
        private int at = 0;
        private int kind = END;
        private int start = 0;
        private int length = 0;
        private int value = 0;
        private final int[] nameStart = new int[BAKERS + SORTS];
        private final int[] nameLength = new int[BAKERS + SORTS];
        private int names = 0;
        private boolean pricesTold = false;
        private boolean keepTold = false;

        /** The fault of the first n bytes, 0 without one; what they tell stands in the town then. */
        int read(byte[] tape, int n, Town told) {
            open(tape, n, told);
            nextToken();
            for (int lines = 0; lines <= TAPE && fault == 0; lines++) {
                if (isWord("baker")) {
                    readBaker(told);
                } else if (isWord("sort")) {
                    readSort(told);
                } else if (isWord("prices")) {
                    readPrices(told);
                } else if (isWord("keep")) {
                    readKeep(told);
                } else {
                    fail(FORM, start);
                }
                if (fault == 0 && kind == END) {
                    break;
                }
                pass(LINE_END);
            }
            if (told.bakers < 2 || told.sorts < 1 || !pricesTold || !keepTold) {
                fail(LACKS, end);
            }
            return fault;
        }

        private void open(byte[] tape, int n, Town told) {
            text = tape;
            end = n;
            at = 0;
            fault = 0;
            place = NONE;
            names = 0;
            pricesTold = false;
            keepTold = false;
            told.bakers = 0;
            told.sorts = 0;
            told.steps = 0;
        }

        /** The first one counts. */
        private void fail(int number, int where) {
            if (fault == 0) {
                fault = number;
                place = where;
            }
        }

        private void nextToken() {
            while (at < end && text[at] == ' ') {
                at++;
            }
            start = at;
            value = 0;
            kind = at < end ? kindOf(text[at]) : END;
            if (kind == LINE_END || kind == COMMA || kind == BAD) {
                at++;
            }
            // All letters, or digits, that stand together; too many of them are no token.
            while (at < end && (kind == WORD || kind == WHOLE) && kindOf(text[at]) == kind) {
                value = 10 * value + text[at] - '0';
                at++;
            }
            length = at - start;
            if (kind == WORD && length > LONGEST_WORD || kind == WHOLE && length > LONGEST_WHOLE) {
                kind = BAD;
            }
        }

        /** Of the token that a byte begins. */
        private int kindOf(byte b) {
            if (b >= 'a' && b <= 'z') {
                return WORD;
            }
            if (b >= '0' && b <= '9') {
                return WHOLE;
            }
            return b == ';' ? LINE_END : b == ',' ? COMMA : BAD;
        }

        private boolean isWord(String word) {
            if (kind != WORD || length != word.length()) {
                return false;
            }
            for (int i = 0; i < length; i++) {
                if (text[start + i] != word.charAt(i)) {
                    return false;
                }
            }
            return true;
        }

        private void readBaker(Town told) {
            int b = told.bakers;
            if (b >= BAKERS) {
                fail(MANY, start);
                return;
            }
            nextToken();
            readName();
            told.costs[b] = readWhole("costs", MOST_COSTS);
            told.fits[b] = readWhole("fits", 9);
            told.enters[b] = readWhole("enters", 999);
            told.bakers++;
        }

        private void readSort(Town told) {
            int s = told.sorts;
            if (s >= SORTS) {
                fail(MANY, start);
                return;
            }
            nextToken();
            readName();
            told.fresh[s] = readWhole("new", 99);
            told.worth[s] = readWhole("worth", 199);
            told.leaves[s] = readWhole("leaves", 99);
            told.stays[s] = readWhole("stays", 100);
            told.far[s] = readEither("near", "far");
            told.sorts++;
        }

        private void readPrices(Town told) {
            if (pricesTold) {
                fail(TWICE, start);
                return;
            }
            pricesTold = true;
            nextToken();
            told.two = readEither("one", "two");
            readPrice(told);
            for (int i = 0; i < TAPE && fault == 0 && kind == COMMA; i++) {
                nextToken();
                readPrice(told);
            }
        }

        private void readPrice(Town told) {
            if (fault != 0) {
                return;
            }
            if (kind != WHOLE) {
                fail(FORM, start);
            } else if (value > 199 || told.steps > 0 && value <= told.prices[told.steps - 1]) {
                fail(BOUNDS, start);
            } else if (told.steps >= STEPS) {
                fail(MANY, start);
            } else {
                told.prices[told.steps] = value;
                told.steps++;
                nextToken();
            }
        }

        private void readKeep(Town told) {
            if (keepTold) {
                fail(TWICE, start);
                return;
            }
            keepTold = true;
            told.keep = readWhole("keep", 100);
        }

        private void readName() {
            if (fault != 0) {
                return;
            }
            if (kind != WORD || isWord("baker") || isWord("sort") || isWord("prices") || isWord("keep")) {
                fail(FORM, start);
            } else if (isToldName()) {
                fail(TWICE, start);
            } else if (names < nameStart.length) {
                nameStart[names] = start;
                nameLength[names] = length;
                names++;
                nextToken();
            }
        }

        private boolean isToldName() {
            for (int i = 0; i < names; i++) {
                if (nameLength[i] == length && sameBytes(nameStart[i], start, length)) {
                    return true;
                }
            }
            return false;
        }

        private boolean sameBytes(int one, int other, int n) {
            for (int i = 0; i < n; i++) {
                if (text[one + i] != text[other + i]) {
                    return false;
                }
            }
            return true;
        }

        /** A word and the whole behind it. */
        private int readWhole(String word, int most) {
            if (fault == 0 && !isWord(word)) {
                fail(FORM, start);
            }
            pass(WORD);
            if (fault == 0 && kind == WHOLE && value > most) {
                fail(BOUNDS, start);
            }
            int whole = value;
            pass(WHOLE);
            return whole;
        }

        /** 0 for the one word, 1 for the other. */
        private int readEither(String one, String other) {
            int which = isWord(other) ? 1 : 0;
            if (fault == 0 && which == 0 && !isWord(one)) {
                fail(FORM, start);
            }
            pass(WORD);
            return which;
        }

        private void pass(int wanted) {
            if (fault != 0) {
                return;
            }
            if (kind != wanted) {
                fail(FORM, start);
            } else {
                nextToken();
            }
        }
    }

    /** What one of a sort has of each baker at some prices, and whom it chooses. */
    private static final class Market {
        final Town town = new Town();
        final int[] oldPrice = new int[BAKERS];
        final int[] newPrice = new int[BAKERS];
        /** What comes next year, as far looking ones count it, by where one is then. */
        private final int[] ahead = new int[BAKERS + 1];
        private int sort = 0;

        void setPrices(int baker, int old, int fresh) {
            oldPrice[baker] = town.prices[old];
            newPrice[baker] = town.prices[fresh];
        }

        /** The sort whose buyers are looked at; the prices stand by then. */
        void turnTo(int s) {
            sort = s;
            for (int b = 0; b < town.bakers; b++) {
                ahead[b] = town.keep * mostNear(b) / 100;
            }
            ahead[NO_BAKER] = town.keep * mostNear(NO_BAKER) / 100;
        }

        private int mostNear(int from) {
            int most = 0;
            for (int b = 0; b < town.bakers; b++) {
                most = Math.max(most, hasOf(from, b, false));
            }
            return most;
        }

        int hasOf(int from, int to, boolean far) {
            int has = far ? ahead[to] : 0;
            if (to == NO_BAKER) {
                return has;
            }
            has += town.worth[sort] - (from == to ? oldPrice[to] : newPrice[to]);
            if (from != to && from != NO_BAKER) {
                int leaves = town.leaves[sort];
                has -= town.fits[from] == town.fits[to] ? leaves / 2 : leaves;
            }
            return has;
        }

        /** The baker that one from a baker, or a new one, goes to, or NO_BAKER. */
        int choice(int from, boolean far) {
            int chosen = from == NO_BAKER ? 0 : from;
            int most = hasOf(from, chosen, far);
            for (int b = 0; b < town.bakers; b++) {
                int has = hasOf(from, b, far);
                if (has > most) {
                    most = has;
                    chosen = b;
                }
            }
            return hasOf(from, NO_BAKER, far) > most ? NO_BAKER : chosen;
        }

        /** Whom all kinds of each sort choose, two bits a kind, into a row from a place on. */
        void chooseAll(int[] row, int at) {
            for (int s = 0; s < town.sorts; s++) {
                turnTo(s);
                int packed = choice(NO_BAKER, false) << 2 * NEW_NEAR | choice(NO_BAKER, true) << 2 * NEW_FAR;
                for (int b = 0; b < town.bakers; b++) {
                    packed |= choice(b, town.far[s] == 1) << 2 * b;
                }
                row[at + s] = packed;
            }
        }
    }

    /** What happens in one year. */
    private static final class Year {
        final Market market = new Market();
        private final Town town = market.town;
        private final int[] newNear = new int[SORTS];
        private final int[] newFar = new int[SORTS];
        private final int[] came = new int[BAKERS];
        final long[] earned = new long[BAKERS];
        final long[] paid = new long[SORTS];
        final int[] left = new int[SORTS];
        final int[] next = new int[SEATS];

        void bringAsTold() {
            for (int s = 0; s < town.sorts; s++) {
                bring(s, town.fresh[s], town.far[s] == 1 ? town.fresh[s] : 0);
            }
        }

        /** So many new ones of a sort come, of them so many far looking: whether that is other than before. */
        boolean bring(int s, int fresh, int far) {
            boolean other = newFar[s] != far || newNear[s] != fresh - far;
            newFar[s] = far;
            newNear[s] = fresh - far;
            return other;
        }

        /** All go where they chose at the market's prices. */
        void pass(int[] held, int heldAt, int[] choices, int choicesAt) {
            Arrays.fill(earned, 0L);
            for (int s = 0; s < town.sorts; s++) {
                paid[s] = 0;
                left[s] = 0;
                Arrays.fill(came, 0);
                for (int kind = 0; kind < KINDS; kind++) {
                    int n = kind == NEW_NEAR ? newNear[s] : kind == NEW_FAR ? newFar[s]
                            : held[heldAt + kind * SORTS + s];
                    if (n > 0) {
                        move(s, n, kind, choices[choicesAt + s] >> 2 * kind & 3);
                    }
                }
                for (int b = 0; b < BAKERS; b++) {
                    next[b * SORTS + s] = came[b] * town.stays[s] / 100;
                }
            }
        }

        private void move(int s, int n, int kind, int to) {
            if (kind < BAKERS && kind != to) {
                left[s] += n;
            }
            if (to == NO_BAKER) {
                return;
            }
            long price = kind == to ? market.oldPrice[to] : market.newPrice[to];
            paid[s] += n * price;
            earned[to] += n * (price - town.costs[to]);
            came[to] += n;
        }
    }

    /** The years there were; the row behind the last of them is the present. */
    private static final class Chronicle {
        int years = 0;
        final int[] held = new int[(MOST_YEARS + 1) * SEATS];
        final int[] oldStep = new int[(MOST_YEARS + 1) * BAKERS];
        final int[] newStep = new int[(MOST_YEARS + 1) * BAKERS];
        final int[] seeds = new int[MOST_YEARS + 1];
        final long[] earned = new long[MOST_YEARS * BAKERS];
        final int[] left = new int[MOST_YEARS];

        void clear() {
            years = 0;
            seeds[0] = 0;
            Arrays.fill(held, 0);
            Arrays.fill(oldStep, 0);
            Arrays.fill(newStep, 0);
        }

        int seat(int baker, int sort) {
            return years * SEATS + baker * SORTS + sort;
        }

        int counter(int baker) {
            return years * BAKERS + baker;
        }

        /** The present year is over: how many left in it. */
        int close(Year year, int seed) {
            if (years >= MOST_YEARS) {
                return 0;
            }
            int gone = 0;
            for (int s = 0; s < year.town.sorts; s++) {
                gone += year.left[s];
            }
            left[years] = gone;
            System.arraycopy(year.earned, 0, earned, years * BAKERS, BAKERS);
            System.arraycopy(oldStep, years * BAKERS, oldStep, (years + 1) * BAKERS, BAKERS);
            System.arraycopy(newStep, years * BAKERS, newStep, (years + 1) * BAKERS, BAKERS);
            years++;
            System.arraycopy(year.next, 0, held, years * SEATS, SEATS);
            seeds[years] = seed;
            return gone;
        }
    }

    /** What the latest rest found. */
    private static final class Outcome {
        boolean known = false;
        final int[] oldStep = new int[BAKERS];
        final int[] newStep = new int[BAKERS];
        final long[] worth = new long[BAKERS];
    }

    /** What each baker asks at rest. Acts of all bakers together have one number, the first baker's act leading. */
    private static final class Rest {
        private final Year year = new Year();
        private final Market market = year.market;
        final Town town = market.town;
        private final int[] acts = new int[BAKERS];
        private final int[] stride = new int[BAKERS];
        private int together = 0;
        private final int[] choices = new int[MOST_ACTS * SORTS];
        /** The first acts of all by which everybody chooses as by these, so that the same are held next. */
        private final int[] twin = new int[MOST_ACTS];
        /** By years left, acts of all and baker; the room for acts keeps more years as short as one. */
        private final long[] worths = new long[MOST_ACTS * BAKERS];
        private final long[] later = new long[MOST_ACTS * BAKERS];
        /** Who is held, and what it is worth to each baker, by how many years are left. */
        final int[][] held = new int[MOST_AHEAD + 1][SEATS];
        final long[][] value = new long[MOST_AHEAD + 1][BAKERS];
        final long[] paid = new long[SORTS];
        final long[] left = new long[SORTS];
        boolean unsure = false;

        void stage(Town told, int law) {
            town.copyOf(told);
            town.obey(law);
            Arrays.fill(acts, town.acts());
            year.bringAsTold();
            unsure = false;
        }

        /** No old step above this one: as acts go by old steps, only the first ones are left. */
        void keepBelow(int baker, int step) {
            acts[baker] = town.actOf(step, town.steps - 1) + 1;
        }

        /** Of the new ones f hundredths look far: whether these are other numbers than before. */
        boolean shareNewOnes(int f) {
            boolean other = false;
            for (int s = 0; s < town.sorts; s++) {
                if (year.bring(s, town.fresh[s], town.fresh[s] * f / 100)) {
                    other = true;
                }
            }
            return other;
        }

        /** Choices hang on what is asked alone, not on who is held: they are made once for all years. */
        void tabulate(int years) {
            together = 1;
            for (int b = town.bakers - 1; b >= 0; b--) {
                stride[b] = together;
                together *= acts[b];
            }
            for (int all = 0; all < together; all++) {
                askAll(all);
                market.chooseAll(choices, all * SORTS);
                // With one year nobody looks at what is held next.
                twin[all] = years > 1 ? firstLike(all) : all;
            }
        }

        private int firstLike(int all) {
            for (int other = 0; other < all; other++) {
                if (choosesAlike(other, all)) {
                    return other;
                }
            }
            return all;
        }

        private boolean choosesAlike(int one, int other) {
            for (int s = 0; s < town.sorts; s++) {
                if (choices[one * SORTS + s] != choices[other * SORTS + s]) {
                    return false;
                }
            }
            return true;
        }

        int actOf(int all, int baker) {
            if (stride[baker] < 1 || acts[baker] < 1) {
                return 0;
            }
            return all / stride[baker] % acts[baker];
        }

        private void askAll(int all) {
            for (int b = 0; b < town.bakers; b++) {
                int act = actOf(all, b);
                market.setPrices(b, town.oldStep(act), town.newStep(act));
            }
        }

        /** The acts at rest, of those held with so many years left; value tells then what they are worth. */
        int settle(int years) {
            if (years < 1 || years > MOST_AHEAD) {
                return 0;
            }
            int base = (years - 1) * together * town.bakers;
            for (int all = 0; all < together; all++) {
                weigh(all, years, base);
            }
            int calmest = 0;
            long least = pull(0, base, NO_LONG);
            for (int all = 1; all < together && least > 0; all++) {
                long pull = pull(all, base, least);
                if (pull < least) {
                    least = pull;
                    calmest = all;
                }
            }
            if (least > 0) {
                unsure = true;
            }
            System.arraycopy(worths, base + calmest * town.bakers, value[years], 0, town.bakers);
            return calmest;
        }

        /** What acts of all are worth to each baker, into the rows of so many years left. */
        private void weigh(int all, int years, int base) {
            int at = base + all * town.bakers;
            askAll(all);
            year.pass(held[years], 0, choices, all * SORTS);
            System.arraycopy(year.earned, 0, worths, at, town.bakers);
            if (years == 1) {
                return;
            }
            if (twin[all] == all) {
                System.arraycopy(year.next, 0, held[years - 1], 0, SEATS);
                settle(years - 1);
                System.arraycopy(value[years - 1], 0, later, at, town.bakers);
            }
            for (int b = 0; b < town.bakers; b++) {
                worths[at + b] += Math.floorDiv(town.keep * later[base + twin[all] * town.bakers + b], 100L);
            }
        }

        /** The greatest gain by which a baker would go away from acts of all; none need be looked for from enough on. */
        private long pull(int all, int base, long enough) {
            long greatest = 0;
            for (int b = 0; b < town.bakers; b++) {
                int first = all - actOf(all, b) * stride[b];
                long now = worths[base + all * town.bakers + b];
                for (int a = 0; a < acts[b]; a++) {
                    long gain = worths[base + (first + a * stride[b]) * town.bakers + b] - now;
                    greatest = Math.max(greatest, gain);
                }
                if (enough != NO_LONG && greatest >= enough) {
                    return greatest;
                }
            }
            return greatest;
        }

        /** Goes through n years at rest and adds up what sorts pay and how often they leave. */
        void follow(int n) {
            tabulate(n);
            Arrays.fill(paid, 0L);
            Arrays.fill(left, 0L);
            for (int years = Math.min(n, MOST_AHEAD); years >= 1; years--) {
                int all = settle(years);
                askAll(all);
                year.pass(held[years], 0, choices, all * SORTS);
                for (int s = 0; s < town.sorts; s++) {
                    paid[s] += year.paid[s];
                    left[s] += year.left[s];
                }
                System.arraycopy(year.next, 0, held[years - 1], 0, SEATS);
            }
        }

        /** Whether somebody lures at rest over one year. */
        boolean anyLures() {
            int all = settle(1);
            for (int b = 0; b < town.bakers; b++) {
                int act = actOf(all, b);
                if (town.newStep(act) < town.oldStep(act)) {
                    return true;
                }
            }
            return false;
        }
    }
}
