import java.util.ArrayList;
import java.util.Arrays;
import java.util.HashMap;
import java.util.List;
import java.util.Map;
import java.util.regex.Matcher;
import java.util.regex.Pattern;

/** The document once more, word by word and slowly, to hold the program against. */
final class Plain {
    static final int NONE = -1;

    record Baker(String name, int costs, int fits, int enters) {
        Baker costing(int v) {
            return new Baker(name, v, fits, enters);
        }

        Baker fitting(int v) {
            return new Baker(name, costs, v, enters);
        }
    }

    record Sort(String name, int fresh, int worth, int leaves, int stays, boolean far) {
    }

    record Act(int old, int fresh) {
    }

    /** A town, under a law too. */
    record Place(List<Baker> bakers, List<Sort> sorts, List<Integer> prices, boolean two, int keep) {
        List<Act> acts() {
            List<Act> all = new ArrayList<>();
            for (int o = 0; o < prices.size(); o++) {
                for (int f = 0; f < prices.size(); f++) {
                    if (two || o == f) {
                        all.add(new Act(o, f));
                    }
                }
            }
            return all;
        }

        Place by(int law) {
            List<Sort> now = new ArrayList<>();
            for (Sort s : sorts) {
                int leaves = law == 2 ? s.leaves() / 2 : law == 3 ? 0 : s.leaves();
                boolean far = law == 4 || law != 5 && s.far();
                now.add(new Sort(s.name(), s.fresh(), s.worth(), leaves, s.stays(), far));
            }
            return new Place(bakers, now, prices, two && law != 1, keep);
        }
    }

    /** All that again() brings back. */
    record Moment(List<List<Integer>> held, List<Act> asked, int seed) {
    }

    record Passed(List<Long> earned, List<Long> paid, List<Long> left, List<List<Integer>> next) {
    }

    record Found(List<Act> acts, List<Long> worth) {
    }

    private String tape = "";
    private Place place = null;
    private int trouble = 0;
    private int fault = 0;
    private int where = NONE;
    private List<List<Integer>> held = new ArrayList<>();
    private List<Act> asked = new ArrayList<>();
    private int seed = 0;
    private final List<Moment> ahead = new ArrayList<>();
    private final List<Passed> years = new ArrayList<>();
    private Found rested = null;

    // ---- one choice

    static int leaving(Place p, Sort s, int from, int to) {
        if (from == NONE || from == to) {
            return 0;
        }
        boolean alike = p.bakers().get(from).fits() == p.bakers().get(to).fits();
        return alike ? s.leaves() / 2 : s.leaves();
    }

    /** Of baker to, or of none (-2), near looking. */
    static int near(Place p, List<Act> asked, Sort s, int from, int to) {
        if (to == -2) {
            return 0;
        }
        int step = from == to ? asked.get(to).old() : asked.get(to).fresh();
        return s.worth() - p.prices().get(step) - leaving(p, s, from, to);
    }

    static int looking(Place p, List<Act> asked, Sort s, int from, int to, boolean far) {
        int now = near(p, asked, s, from, to);
        if (!far) {
            return now;
        }
        int then = 0;
        int home = to == -2 ? NONE : to;
        for (int b = 0; b < p.bakers().size(); b++) {
            then = Math.max(then, near(p, asked, s, home, b));
        }
        return now + Math.floorDiv(then * p.keep(), 100);
    }

    static int chosen(Place p, List<Act> asked, Sort s, int from, boolean far) {
        List<Integer> order = new ArrayList<>();
        if (from != NONE) {
            order.add(from);
        }
        for (int b = 0; b < p.bakers().size(); b++) {
            order.add(b);
        }
        order.add(-2);
        int best = order.get(0);
        for (int to : order) {
            if (looking(p, asked, s, from, to, far) > looking(p, asked, s, from, best, far)) {
                best = to;
            }
        }
        return best;
    }

    // ---- one year

    /** fresh: of each sort how many new ones look near, and how many far; heldFar: how held ones look. */
    static Passed year(Place p, List<Act> asked, List<List<Integer>> held, int[][] fresh, boolean[] heldFar) {
        int bakers = p.bakers().size();
        long[] earned = new long[bakers];
        long[] paid = new long[p.sorts().size()];
        long[] left = new long[p.sorts().size()];
        int[][] came = new int[bakers][p.sorts().size()];
        for (int s = 0; s < p.sorts().size(); s++) {
            for (int from = NONE; from < bakers; from++) {
                for (int look = 0; look < 2; look++) {
                    int n = from == NONE ? fresh[s][look] : (heldFar[s] ? 1 : 0) == look ? held.get(from).get(s) : 0;
                    int to = chosen(p, asked, p.sorts().get(s), from, look == 1);
                    if (from != NONE && to != from) {
                        left[s] += n;
                    }
                    if (to >= 0) {
                        int price = p.prices().get(to == from ? asked.get(to).old() : asked.get(to).fresh());
                        paid[s] += (long) n * price;
                        earned[to] += (long) n * price - (long) n * p.bakers().get(to).costs();
                        came[to][s] += n;
                    }
                }
            }
        }
        List<List<Integer>> next = new ArrayList<>();
        for (int b = 0; b < bakers; b++) {
            List<Integer> row = new ArrayList<>();
            for (int s = 0; s < p.sorts().size(); s++) {
                row.add(came[b][s] * p.sorts().get(s).stays() / 100);
            }
            next.add(row);
        }
        return new Passed(listed(earned), listed(paid), listed(left), next);
    }

    private static List<Long> listed(long[] numbers) {
        List<Long> list = new ArrayList<>();
        for (long n : numbers) {
            list.add(n);
        }
        return list;
    }

    static int[][] freshAsTold(Place p) {
        int[][] fresh = new int[p.sorts().size()][2];
        for (int s = 0; s < fresh.length; s++) {
            fresh[s][p.sorts().get(s).far() ? 1 : 0] = p.sorts().get(s).fresh();
        }
        return fresh;
    }

    static boolean[] looksAsTold(Place p) {
        boolean[] far = new boolean[p.sorts().size()];
        for (int s = 0; s < far.length; s++) {
            far[s] = p.sorts().get(s).far();
        }
        return far;
    }

    // ---- rest

    /** A search for rest in one place, with the old steps promised; keeps what it found. */
    static final class Search {
        final Place p;
        final int[] promised;
        final int[][] fresh;
        final boolean[] heldFar;
        final List<List<Act>> all = new ArrayList<>();
        final Map<String, Found> known = new HashMap<>();
        boolean unsure = false;

        Search(Place p, int[] promised, int[][] fresh, boolean[] heldFar) {
            this.p = p;
            this.promised = promised;
            this.fresh = fresh;
            this.heldFar = heldFar;
            collect(new ArrayList<>());
        }

        private void collect(List<Act> begun) {
            int b = begun.size();
            if (b == p.bakers().size()) {
                all.add(new ArrayList<>(begun));
                return;
            }
            for (Act a : p.acts()) {
                if (a.old() <= promised[b]) {
                    begun.add(a);
                    collect(begun);
                    begun.remove(b);
                }
            }
        }

        Found find(List<List<Integer>> held, int years) {
            String key = years + ":" + held;
            if (known.containsKey(key)) {
                return known.get(key);
            }
            Map<List<Act>, List<Long>> worth = new HashMap<>();
            for (List<Act> acts : all) {
                Passed y = year(p, acts, held, fresh, heldFar);
                List<Long> sum = new ArrayList<>(y.earned());
                if (years > 1) {
                    Found then = find(y.next(), years - 1);
                    for (int b = 0; b < sum.size(); b++) {
                        sum.set(b, sum.get(b) + Math.floorDiv(p.keep() * then.worth().get(b), 100L));
                    }
                }
                worth.put(acts, sum);
            }
            List<Act> first = null;
            long least = Long.MAX_VALUE;
            for (List<Act> acts : all) {
                long gain = greatestGain(acts, worth);
                if (gain <= 0) {
                    first = acts;
                    least = 0;
                    break;
                }
                if (gain < least) {
                    first = acts;
                    least = gain;
                }
            }
            unsure |= least > 0;
            Found found = new Found(first, worth.get(first));
            known.put(key, found);
            return found;
        }

        private long greatestGain(List<Act> acts, Map<List<Act>, List<Long>> worth) {
            long greatest = Long.MIN_VALUE;
            for (int b = 0; b < acts.size(); b++) {
                for (Act other : p.acts()) {
                    if (other.old() <= promised[b]) {
                        List<Act> changed = new ArrayList<>(acts);
                        changed.set(b, other);
                        greatest = Math.max(greatest, worth.get(changed).get(b) - worth.get(acts).get(b));
                    }
                }
            }
            return greatest;
        }
    }

    private static Search search(Place p) {
        int[] free = new int[p.bakers().size()];
        Arrays.fill(free, 9);
        return new Search(p, free, freshAsTold(p), looksAsTold(p));
    }

    private boolean tooMany(int n, int law) {
        double count = Math.pow(place.by(law).acts().size(), place.bakers().size() * n);
        return count > 20000.5;
    }

    // ---- the face

    long feed(int... numbers) {
        if (tape.length() + 20 > 700) {
            return NONE;
        }
        StringBuilder more = new StringBuilder(tape);
        for (int n : numbers) {
            for (int shift = 24; shift >= 0; shift -= 8) {
                more.append((char) (n >>> shift & 255));
            }
        }
        tape = more.toString();
        return tape.length();
    }

    private long refused(int number, long answer) {
        trouble = number;
        return answer;
    }

    private long fine(long answer) {
        trouble = 0;
        return answer;
    }

    long town(int n) {
        if (n < 0 || n > tape.length()) {
            return refused(2, NONE);
        }
        Place read = read(tape.substring(0, n));
        tape = "";
        if (read == null) {
            return refused(4, NONE);
        }
        place = read;
        held = new ArrayList<>();
        asked = new ArrayList<>();
        for (int b = 0; b < place.bakers().size(); b++) {
            asked.add(new Act(0, 0));
            List<Integer> row = new ArrayList<>();
            for (int s = 0; s < place.sorts().size(); s++) {
                row.add(0);
            }
            held.add(row);
        }
        seed = 0;
        ahead.clear();
        years.clear();
        rested = null;
        return fine(place.bakers().size());
    }

    long fault() {
        return fault;
    }

    long where() {
        return trouble == 4 ? where : NONE;
    }

    private boolean noBaker(int b) {
        return place == null || b < 0 || b >= place.bakers().size();
    }

    private boolean noSort(int s) {
        return place == null || s < 0 || s >= place.sorts().size();
    }

    private boolean noStep(int step) {
        return step < 0 || step >= place.prices().size();
    }

    long hold(int b, int s, int n) {
        if (noBaker(b) || noSort(s)) {
            return refused(1, 0);
        }
        if (n < 0 || n > 9999) {
            return refused(2, 0);
        }
        held.get(b).set(s, n);
        return fine(1);
    }

    long ask(int b, int old, int fresh) {
        if (noBaker(b)) {
            return refused(1, 0);
        }
        if (noStep(old) || noStep(fresh)) {
            return refused(2, 0);
        }
        if (!place.two() && old != fresh) {
            return refused(5, 0);
        }
        asked.set(b, new Act(old, fresh));
        return fine(1);
    }

    long choose(int b, int s) {
        if (b != NONE && noBaker(b) || noSort(s)) {
            return refused(1, NONE);
        }
        Sort sort = place.sorts().get(s);
        return fine(chosen(place, asked, sort, b, sort.far()));
    }

    long has(int b, int s, int to) {
        if (b != NONE && noBaker(b) || noSort(s) || to != -2 && noBaker(to)) {
            return refused(1, Integer.MIN_VALUE);
        }
        Sort sort = place.sorts().get(s);
        return fine(looking(place, asked, sort, b, to, sort.far()));
    }

    long seed(int v) {
        if (place == null) {
            return refused(1, 0);
        }
        if (v < 0 || v > 65536) {
            return refused(2, 0);
        }
        seed = v;
        return fine(1);
    }

    private List<List<Integer>> heldCopy() {
        List<List<Integer>> copy = new ArrayList<>();
        for (List<Integer> row : held) {
            copy.add(new ArrayList<>(row));
        }
        return copy;
    }

    long go(int n) {
        if (place == null) {
            return refused(1, NONE);
        }
        if (n < 1 || n > 10) {
            return refused(2, NONE);
        }
        if (years.size() + n > 40) {
            return refused(3, NONE);
        }
        long gone = 0;
        for (int i = 0; i < n; i++) {
            ahead.add(new Moment(heldCopy(), new ArrayList<>(asked), seed));
            int[][] fresh = freshAsTold(place);
            for (int[] two : fresh) {
                if (seed > 0) {
                    int which = place.sorts().get(indexOf(fresh, two)).far() ? 1 : 0;
                    seed = (int) ((75L * seed + 74) % 65537);
                    two[which] = Math.max(0, two[which] + seed % 3 - 1);
                }
            }
            Passed y = year(place, asked, held, fresh, looksAsTold(place));
            years.add(y);
            held = y.next();
            held = heldCopy();
            gone += y.left().stream().mapToLong(Long::longValue).sum();
        }
        return fine(gone);
    }

    private static int indexOf(int[][] rows, int[] row) {
        for (int i = 0; i < rows.length; i++) {
            if (rows[i] == row) {
                return i;
            }
        }
        return NONE;
    }

    long again(int year) {
        if (place == null) {
            return refused(1, 0);
        }
        if (year < 0 || year > years.size()) {
            return refused(2, 0);
        }
        if (year < years.size()) {
            Moment m = ahead.get(year);
            held = m.held();
            held = heldCopy();
            asked = new ArrayList<>(m.asked());
            seed = m.seed();
            while (years.size() > year) {
                years.remove(years.size() - 1);
                ahead.remove(ahead.size() - 1);
            }
        }
        return fine(1);
    }

    long held(int b, int s) {
        return noBaker(b) || noSort(s) ? refused(1, NONE) : fine(held.get(b).get(s));
    }

    long earned(int b, int year) {
        if (noBaker(b) || year < 0 || year >= years.size()) {
            return refused(1, Long.MIN_VALUE);
        }
        return fine(years.get(year).earned().get(b));
    }

    long rest(int n) {
        if (place == null) {
            return refused(1, NONE);
        }
        if (n < 1 || n > 3) {
            return refused(2, NONE);
        }
        if (tooMany(n, 0)) {
            return refused(3, NONE);
        }
        Search search = search(place);
        rested = search.find(held, n);
        return fine(search.unsure ? 1 : 0);
    }

    long act(int b, int what) {
        if (noBaker(b) || what != 0 && what != 1) {
            return refused(1, NONE);
        }
        if (rested == null) {
            return refused(6, NONE);
        }
        return fine(what == 0 ? rested.acts().get(b).old() : rested.acts().get(b).fresh());
    }

    long worth(int b) {
        if (noBaker(b)) {
            return refused(1, Long.MIN_VALUE);
        }
        return rested == null ? refused(6, Long.MIN_VALUE) : fine(rested.worth().get(b));
    }

    private long earnedBy(int b, Act act) {
        List<Act> acts = new ArrayList<>(asked);
        acts.set(b, act);
        return year(place, acts, held, freshAsTold(place), looksAsTold(place)).earned().get(b);
    }

    private Act bestAct(int b) {
        Act best = null;
        for (Act a : place.acts()) {
            if (best == null || earnedBy(b, a) > earnedBy(b, best)) {
                best = a;
            }
        }
        return best;
    }

    long gain(int b) {
        if (noBaker(b)) {
            return refused(1, Long.MIN_VALUE);
        }
        return fine(earnedBy(b, bestAct(b)) - earnedBy(b, asked.get(b)));
    }

    long best(int b) {
        if (noBaker(b)) {
            return refused(1, NONE);
        }
        return fine(10 * bestAct(b).old() + bestAct(b).fresh());
    }

    /** What a sort pays (0) or how often it leaves (1). */
    private long along(int s, int n, int law, int what) {
        Search search = search(place.by(law));
        List<List<Integer>> now = held;
        long sum = 0;
        for (int left = n; left > 0; left--) {
            Passed y = year(search.p, search.find(now, left).acts(), now, search.fresh, search.heldFar);
            sum += what == 0 ? y.paid().get(s) : y.left().get(s);
            now = y.next();
        }
        return sum;
    }

    private long summed(int s, int n, int law, int what) {
        if (noSort(s) || law < 0 || law > 5) {
            return refused(1, Long.MIN_VALUE);
        }
        if (n < 1 || n > 3) {
            return refused(2, Long.MIN_VALUE);
        }
        return tooMany(n, law) ? refused(3, Long.MIN_VALUE) : fine(along(s, n, law, what));
    }

    long paid(int s, int n, int law) {
        return summed(s, n, law, 0);
    }

    long leavings(int s, int n, int law) {
        return summed(s, n, law, 1);
    }

    long kindest(int s, int n) {
        int kindest = 0;
        long least = Long.MAX_VALUE;
        int worst = 0;
        for (int law = 0; law <= 5; law++) {
            long paid = summed(s, n, law, 0);
            worst = Math.max(worst, trouble);
            if (paid < least) {
                least = paid;
                kindest = law;
            }
        }
        return worst == 0 ? fine(kindest) : refused(worst, NONE);
    }

    private long worthIn(Place p, int b, int n, List<List<Integer>> from, int[] promised) {
        return new Search(p, promised, freshAsTold(p), looksAsTold(p)).find(from, n).worth().get(b);
    }

    private int[] free() {
        int[] free = new int[place.bakers().size()];
        Arrays.fill(free, 9);
        return free;
    }

    private int ahead(int n) {
        return n < 1 || n > 3 ? 2 : tooMany(n, 0) ? 3 : 0;
    }

    long promise(int b, int step, int n) {
        if (noBaker(b)) {
            return refused(1, Long.MIN_VALUE);
        }
        if (noStep(step) || ahead(n) != 0) {
            return refused(noStep(step) ? 2 : ahead(n), Long.MIN_VALUE);
        }
        int[] promised = free();
        promised[b] = step;
        return fine(worthIn(place, b, n, held, promised));
    }

    private Place shaped(int b, int other) {
        List<Baker> bakers = new ArrayList<>(place.bakers());
        bakers.set(b, bakers.get(b).fitting(bakers.get(other).fits()));
        return new Place(bakers, place.sorts(), place.prices(), place.two(), place.keep());
    }

    long shape(int b, int other, int n) {
        if (noBaker(b) || noBaker(other)) {
            return refused(1, Long.MIN_VALUE);
        }
        if (ahead(n) != 0) {
            return refused(ahead(n), Long.MIN_VALUE);
        }
        return fine(worthIn(shaped(b, other), b, n, held, free()));
    }

    long fit(int b, int n) {
        if (noBaker(b)) {
            return refused(1, NONE);
        }
        if (ahead(n) != 0) {
            return refused(ahead(n), NONE);
        }
        int best = 0;
        for (int o = 0; o < place.bakers().size(); o++) {
            if (shape(b, o, n) > shape(b, best, n)) {
                best = o;
            }
        }
        return fine(best);
    }

    long late(int b, int n) {
        if (noBaker(b)) {
            return refused(1, NONE);
        }
        if (ahead(n) != 0) {
            return refused(ahead(n), NONE);
        }
        List<List<Integer>> without = heldCopy();
        without.get(b).replaceAll(x -> 0);
        return fine(worthIn(place, b, n, without, free()) >= place.bakers().get(b).enters() ? 1 : 0);
    }

    long lures(int b, int what) {
        if (noBaker(b) || what != 0 && what != 1) {
            return refused(1, NONE);
        }
        if (rested == null) {
            return refused(6, NONE);
        }
        Act a = rested.acts().get(b);
        boolean so = what == 0 ? a.fresh() < a.old() : place.prices().get(a.fresh()) < place.bakers().get(b).costs();
        return fine(so ? 1 : 0);
    }

    long edge() {
        if (place == null) {
            return refused(1, NONE);
        }
        for (int f = 0; f <= 100; f++) {
            int[][] fresh = new int[place.sorts().size()][2];
            for (int s = 0; s < fresh.length; s++) {
                fresh[s][1] = place.sorts().get(s).fresh() * f / 100;
                fresh[s][0] = place.sorts().get(s).fresh() - fresh[s][1];
            }
            Search search = new Search(place, free(), fresh, new boolean[fresh.length]);
            if (search.find(held, 1).acts().stream().noneMatch(a -> a.fresh() < a.old())) {
                return fine(f);
            }
        }
        return fine(-2);
    }

    long change(int b, int v) {
        if (noBaker(b)) {
            return refused(1, -1000);
        }
        if (v < 0 || v > 99) {
            return refused(2, -1000);
        }
        int moved = v - place.bakers().get(b).costs();
        place.bakers().set(b, place.bakers().get(b).costing(v));
        return fine(moved);
    }

    /** NONE where the document wants an exception. */
    long led(int i) {
        List<Integer> which = new ArrayList<>();
        for (int y = 0; y < years.size(); y++) {
            if (years.get(y).left().stream().anyMatch(n -> n > 0)) {
                which.add(y);
            }
        }
        return i < 0 || i >= which.size() ? NONE : which.get(i);
    }

    long size(int what) {
        if (what < 0 || what > 8) {
            return NONE;
        }
        if (what == 7) {
            return tape.length();
        }
        if (place == null) {
            return 0;
        }
        int[] sizes = {place.bakers().size(), place.sorts().size(), place.prices().size(), place.two() ? 1 : 0,
            place.keep(), years.size(), seed, 0, place.acts().size()};
        return sizes[what];
    }

    long baker(int b, int what) {
        if (noBaker(b) || what < 0 || what > 4) {
            return NONE;
        }
        Baker k = place.bakers().get(b);
        return new int[] {k.costs(), k.fits(), k.enters(), asked.get(b).old(), asked.get(b).fresh()}[what];
    }

    long sort(int s, int what) {
        if (noSort(s) || what < 0 || what > 4) {
            return NONE;
        }
        Sort k = place.sorts().get(s);
        return new int[] {k.fresh(), k.worth(), k.leaves(), k.stays(), k.far() ? 1 : 0}[what];
    }

    long trouble() {
        return trouble;
    }

    // ---- the text

    record Token(int at, String text) {
    }

    private static final Pattern TOKEN = Pattern.compile("[a-z]+|[0-9]+|[^ ]", Pattern.DOTALL);
    private static final String[] LINES = {
        "baker NAME costs 99 fits 9 enters 999",
        "sort NAME new 99 worth 199 leaves 99 stays 100 near|far",
        "prices one|two PRICE",
        "keep 100"};

    private Place faulty(int number, int at) {
        fault = number;
        where = at;
        return null;
    }

    /** Walks the tokens along the patterns of lines; null, with the fault kept, at the first that is wrong. */
    private Place read(String text) {
        fault = 0;
        List<Token> tokens = new ArrayList<>();
        Matcher m = TOKEN.matcher(text);
        while (m.find()) {
            tokens.add(new Token(m.start(), m.group()));
        }
        tokens.add(new Token(text.length(), ""));
        List<String> names = new ArrayList<>();
        List<List<String>> lines = new ArrayList<>();
        int i = 0;
        while (true) {
            Token head = tokens.get(i);
            String pattern = null;
            for (String line : LINES) {
                if (line.startsWith(head.text() + " ") && !head.text().isEmpty()) {
                    pattern = line;
                }
            }
            if (pattern == null) {
                return faulty(1, head.at());
            }
            long same = lines.stream().filter(l -> l.get(0).equals(head.text())).count();
            if (same == 1 && (head.text().equals("prices") || head.text().equals("keep"))) {
                return faulty(3, head.at());
            }
            if (head.text().equals("baker") && same == 3 || head.text().equals("sort") && same == 4) {
                return faulty(5, head.at());
            }
            List<String> line = new ArrayList<>();
            for (String want : pattern.split(" ")) {
                if (want.equals("PRICE")) {
                    while (true) {
                        int bad = price(tokens.get(i), line);
                        if (bad != 0) {
                            return faulty(bad, tokens.get(i).at());
                        }
                        line.add(tokens.get(i++).text());
                        if (!tokens.get(i).text().equals(",")) {
                            break;
                        }
                        i++;
                    }
                } else {
                    int bad = token(tokens.get(i), want, names);
                    if (bad != 0) {
                        return faulty(bad, tokens.get(i).at());
                    }
                    line.add(tokens.get(i++).text());
                }
            }
            lines.add(line);
            if (tokens.get(i).text().isEmpty()) {
                break;
            }
            if (!tokens.get(i).text().equals(";")) {
                return faulty(1, tokens.get(i).at());
            }
            i++;
        }
        return built(lines, text.length());
    }

    private static int token(Token t, String want, List<String> names) {
        if (want.equals("NAME")) {
            if (!t.text().matches("[a-z]{1,8}") || t.text().matches("baker|sort|prices|keep")) {
                return 1;
            }
            if (names.contains(t.text())) {
                return 3;
            }
            names.add(t.text());
            return 0;
        }
        if (want.matches("[0-9]+")) {
            if (!t.text().matches("[0-9]{1,3}")) {
                return 1;
            }
            return Integer.parseInt(t.text()) > Integer.parseInt(want) ? 4 : 0;
        }
        return t.text().matches(want) ? 0 : 1;
    }

    private static int price(Token t, List<String> line) {
        if (!t.text().matches("[0-9]{1,3}")) {
            return 1;
        }
        int v = Integer.parseInt(t.text());
        if (v > 199 || line.size() > 2 && v <= Integer.parseInt(line.get(line.size() - 1))) {
            return 4;
        }
        return line.size() == 5 ? 5 : 0;
    }

    private Place built(List<List<String>> lines, int end) {
        List<Baker> bakers = new ArrayList<>();
        List<Sort> sorts = new ArrayList<>();
        List<Integer> prices = new ArrayList<>();
        boolean two = false;
        int keep = NONE;
        for (List<String> l : lines) {
            switch (l.get(0)) {
                case "baker" -> bakers.add(new Baker(l.get(1), number(l, 3), number(l, 5), number(l, 7)));
                case "sort" -> sorts.add(new Sort(l.get(1), number(l, 3), number(l, 5), number(l, 7), number(l, 9),
                    l.get(10).equals("far")));
                case "prices" -> {
                    two = l.get(1).equals("two");
                    for (int i = 2; i < l.size(); i++) {
                        prices.add(number(l, i));
                    }
                }
                default -> keep = number(l, 1);
            }
        }
        if (bakers.size() < 2 || sorts.isEmpty() || prices.isEmpty() || keep == NONE) {
            return faulty(6, end);
        }
        return new Place(bakers, sorts, prices, two, keep);
    }

    private static int number(List<String> line, int i) {
        return Integer.parseInt(line.get(i));
    }
}
