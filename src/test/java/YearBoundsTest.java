/** The boundary cases of Terms II and of promises 6 to 14 and 29 to 33: each at the case itself and on both sides of it. */
public final class YearBoundsTest {
    private static final String TWO = "baker a costs 2 fits 1 enters 10;baker b costs 4 fits 2 enters 10;";
    private static final String THREE = TWO + "baker c costs 6 fits 3 enters 10;";
    private static final String SORT = "sort s new 10 worth 20 leaves 5 stays 50 near;";
    private static final String TOWN = TWO + SORT + "prices two 5,10;keep 50";
    private static final int LEAST = Integer.MIN_VALUE;
    private static final int MOST = Integer.MAX_VALUE;

    public static void main(String[] args) {
        howManyHeld();
        heldBeyondWhatIsTold();
        whoIsABaker();
        whoIsASort();
        stepsAsked();
        onePriceForBoth();
        ownFirst();
        leastBaker();
        noneLast();
        halfOfLeaving();
        noLeavingForNewOnes();
        byHundredthsOfKeep();
        neverLessThanNone();
        farLikeOnes();
        farHeldOnesWithoutBaker();
        firstCallOfATown();
        farNewOnesInAYear();
        staysByHundredths();
        staysTogether();
        staysApart();
        boundsOfSeed();
        seedMovesNewOnes();
        seedAndNoNewOnes();
        seedAcrossSortsAndYears();
        seedEnds();
        howManyYearsAtOnce();
        howManyYearsInAll();
        whichYearAgain();
        againAheadOfAll();
        whichYearEarned();
        whoLeft();
        whichLed();
        boundsOfChange();
        whatOfSize();
        whatOfBakerAndSort();
        Check.end();
    }

    private static void refused(String what, StayHouse x, boolean answer, int trouble) {
        Check.due(what, answer, false);
        Check.due(what + " by", x.trouble(), trouble);
    }

    private static void refused(String what, StayHouse x, long answer, long none, int trouble) {
        Check.due(what, answer, none);
        Check.due(what + " by", x.trouble(), trouble);
    }

    // ---- held and asked

    private static void howManyHeld() {
        StayHouse x = Check.open(TOWN);
        for (int n : new int[] {0, 1, 9998, 9999}) {
            Check.due("hold " + n, x.hold(0, 0, n), true);
            Check.due("trouble", x.trouble(), 0);
            Check.due("held " + n, x.held(0, 0), n);
        }
        for (int n : new int[] {-1, -2, 10000, 10001, LEAST, MOST}) {
            refused("hold " + n, x, x.hold(0, 0, n), 2);
            Check.due("held stays", x.held(0, 0), 9999);
        }
    }

    /** What is told has a bound; what years make of it has none. */
    private static void heldBeyondWhatIsTold() {
        StayHouse x = Check.open(TOWN.replace("leaves 5 stays 50", "leaves 0 stays 100").replace("new 10", "new 1"));
        x.ask(1, 1, 1);
        x.hold(0, 0, 9997);
        int[] due = {9998, 9999, 10000, 10001};
        for (int n : due) {
            x.go(1);
            Check.due("held", x.held(0, 0), n);
        }
        refused("hold that many", x, x.hold(0, 0, 10001), 2);
        Check.due("held stays", x.held(0, 0), 10001);
        x.hold(0, 0, 9999);
        x.hold(1, 0, 9999);
        Check.due("all of the other leave", x.go(1), 9999);
        Check.due("two rows together", x.held(0, 0), 19999);
        Check.due("earned of them", x.earned(0, 4), 19999 * 3);
        x.go(1);
        Check.due("earned of those who stayed", x.earned(0, 5), 20000 * 3);
    }

    private static void whoIsABaker() {
        for (int bakers = 2; bakers <= 3; bakers++) {
            StayHouse x = Check.open((bakers == 2 ? TWO : THREE) + SORT + "prices two 5,10;keep 50");
            x.go(1);
            x.rest(1);
            for (int b = 0; b < bakers; b++) {
                Check.due("hold", x.hold(b, 0, 3), true);
                Check.due("ask", x.ask(b, 1, 1), true);
                Check.due("held", x.held(b, 0), 3);
                Check.due("earned", x.earned(b, 0) >= 0, true);
                Check.due("choose", x.choose(b, 0) >= 0, true);
                Check.due("has", x.has(b, 0, b), 10);
                Check.due("gain", x.gain(b) >= 0, true);
                Check.due("best", x.best(b) >= 0, true);
                Check.due("act", x.act(b, 0) >= 0, true);
                Check.due("worth", x.worth(b) >= 0, true);
                Check.due("change", x.change(b, x.baker(b, 0)), 0);
                Check.due("costs", x.baker(b, 0), 2 + 2 * b);
            }
            for (int b : new int[] {-2, bakers, bakers + 1, LEAST, MOST}) {
                refused("hold", x, x.hold(b, 0, 3), 1);
                refused("ask", x, x.ask(b, 0, 0), 1);
                refused("held", x, x.held(b, 0), -1, 1);
                refused("earned", x, x.earned(b, 0), Long.MIN_VALUE, 1);
                refused("choose", x, x.choose(b, 0), -1, 1);
                refused("has", x, x.has(b, 0, 0), LEAST, 1);
                refused("gain", x, x.gain(b), Long.MIN_VALUE, 1);
                refused("best", x, x.best(b), -1, 1);
                refused("act", x, x.act(b, 0), -1, 1);
                refused("worth", x, x.worth(b), Long.MIN_VALUE, 1);
                refused("change", x, x.change(b, 0), -1000, 1);
                Check.due("baker", x.baker(b, 0), -1);
                if (b != -2) {
                    refused("has of it", x, x.has(0, 0, b), LEAST, 1);
                }
            }
            newOneOrNobody(x);
        }
    }

    /** -1 is a new one where a buyer is meant, and -2 none where one goes; elsewhere they are nobody. */
    private static void newOneOrNobody(StayHouse x) {
        Check.due("a new one chooses", x.choose(-1, 0), 0);
        Check.due("a new one has", x.has(-1, 0, 0), 10);
        Check.due("of none", x.has(-1, 0, -2), 0);
        Check.due("trouble", x.trouble(), 0);
        refused("of a new one", x, x.has(-1, 0, -1), LEAST, 1);
        refused("of less", x, x.has(-1, 0, -3), LEAST, 1);
        refused("who is none", x, x.has(-2, 0, 0), LEAST, 1);
        refused("held by a new one", x, x.held(-1, 0), -1, 1);
        refused("hold for a new one", x, x.hold(-1, 0, 1), 1);
        refused("ask as a new one", x, x.ask(-1, 0, 0), 1);
        refused("earned of a new one", x, x.earned(-1, 0), Long.MIN_VALUE, 1);
        refused("change of a new one", x, x.change(-1, 0), -1000, 1);
        refused("gain of a new one", x, x.gain(-1), Long.MIN_VALUE, 1);
        refused("best of a new one", x, x.best(-1), -1, 1);
        Check.due("baker -1", x.baker(-1, 0), -1);
    }

    private static void whoIsASort() {
        StringBuilder sorts = new StringBuilder();
        for (int n = 1; n <= 4; n++) {
            sorts.append(SORT.replace("sort s", "sort " + "pqrt".charAt(n - 1)).replace("worth 20", "worth " + (20 + n)));
            StayHouse x = Check.open(TWO + sorts + "prices two 5,10;keep 50");
            for (int s = 0; s < n; s++) {
                Check.due("hold", x.hold(1, s, 7 + s), true);
                Check.due("held", x.held(1, s), 7 + s);
                Check.due("choose", x.choose(1, s), 1);
                Check.due("has", x.has(1, s, 1), 16 + s);
                Check.due("worth", x.sort(s, 1), 21 + s);
            }
            for (int s : new int[] {-1, n, n + 1, LEAST, MOST}) {
                refused("hold", x, x.hold(1, s, 3), 1);
                refused("held", x, x.held(1, s), -1, 1);
                refused("choose", x, x.choose(1, s), -1, 1);
                refused("has", x, x.has(1, s, 1), LEAST, 1);
                Check.due("sort", x.sort(s, 1), -1);
            }
        }
    }

    private static void stepsAsked() {
        for (int steps = 1; steps <= 3; steps++) {
            StayHouse x = Check.open(TWO + SORT + "prices two " + "5,7,9".substring(0, 2 * steps - 1) + ";keep 50");
            for (int old = 0; old < steps; old++) {
                for (int fresh = 0; fresh < steps; fresh++) {
                    Check.due("ask", x.ask(1, old, fresh), true);
                    Check.due("trouble", x.trouble(), 0);
                    Check.due("asked", 10 * x.baker(1, 3) + x.baker(1, 4), 10 * old + fresh);
                    Check.due("its own pays the old one", x.has(1, 0, 1), 15 - 2 * old);
                    Check.due("others pay the new one", x.has(-1, 0, 1), 15 - 2 * fresh);
                    Check.due("those of another too", x.has(0, 0, 1), 10 - 2 * fresh);
                }
            }
            for (int wrong : new int[] {-1, steps, steps + 1, LEAST, MOST}) {
                refused("old " + wrong, x, x.ask(1, wrong, 0), 2);
                refused("new " + wrong, x, x.ask(1, 0, wrong), 2);
                refused("both " + wrong, x, x.ask(1, wrong, wrong), 2);
                Check.due("asked stays", 10 * x.baker(1, 3) + x.baker(1, 4), 11 * (steps - 1));
            }
        }
    }

    private static void onePriceForBoth() {
        StayHouse x = Check.open(TWO + SORT + "prices one 5,7,9;keep 50");
        for (int old = -1; old <= 3; old++) {
            for (int fresh = -1; fresh <= 3; fresh++) {
                boolean steps = old >= 0 && old < 3 && fresh >= 0 && fresh < 3;
                boolean due = steps && old == fresh;
                Check.due("ask", x.ask(0, old, fresh), due);
                Check.due("by", x.trouble(), !steps ? 2 : due ? 0 : 5);
                if (!due) {
                    int before = old < 0 ? 0 : Math.min(old < fresh ? old : old - 1, 2);
                    Check.due("asked stays " + old + " " + fresh, 10 * x.baker(0, 3) + x.baker(0, 4), 11 * Math.max(0, before));
                }
            }
        }
    }

    // ---- choices

    /** Of its own 20 less what is asked; of the other 15 less 3: its own until it has less. */
    private static void ownFirst() {
        int[] dear = {7, 8, 9};
        int[] due = {1, 1, 0};
        for (int i = 0; i < dear.length; i++) {
            StayHouse x = Check.open(TWO + SORT.replace("leaves 5", "leaves 3") + "prices two 5," + dear[i] + ";keep 0");
            x.ask(1, 1, 0);
            Check.due("own at " + dear[i], x.has(1, 0, 1), 20 - dear[i]);
            Check.due("other", x.has(1, 0, 0), 12);
            Check.due("choice at " + dear[i], x.choose(1, 0), due[i]);
            x.ask(1, 0, 0);
            x.ask(0, 1, 0);
            Check.due("the first's own likewise", x.choose(0, 0), due[i] == 1 ? 0 : 1);
        }
    }

    private static void leastBaker() {
        StayHouse x = Check.open(THREE + SORT.replace("leaves 5", "leaves 0") + "prices two 5,6;keep 0");
        int[] due = {0, 1, 0, 2, 0, 1, 0, 0};
        for (int dear = 0; dear < 8; dear++) {
            for (int b = 0; b < 3; b++) {
                x.ask(b, dear >> b & 1, dear >> b & 1);
            }
            Check.due("new, of " + dear, x.choose(-1, 0), due[dear]);
            // One that is held stays by its own unless that alone is dear.
            for (int b = 0; b < 3; b++) {
                Check.due("held by " + b + " of " + dear, x.choose(b, 0), dear == 7 || (dear >> b & 1) == 0 ? b : due[dear]);
            }
        }
    }

    private static void noneLast() {
        int[] due = {-2, 0, 0};
        for (int worth = 4; worth <= 6; worth++) {
            StayHouse x = Check.open(TWO + SORT.replace("worth 20", "worth " + worth) + "prices two 5,10;keep 50");
            Check.due("has of a baker", x.has(-1, 0, 0), worth - 5);
            Check.due("has of none", x.has(-1, 0, -2), 0);
            Check.due("a new one", x.choose(-1, 0), due[worth - 4]);
            Check.due("one of the first", x.choose(0, 0), due[worth - 4]);
            Check.due("one of the second", x.choose(1, 0), due[worth - 4] == 0 ? 1 : -2);
            Check.due("not refused", x.trouble(), 0);
            x.hold(0, 0, 3);
            Check.due("leave for none", x.go(1), worth == 4 ? 3 : 0);
        }
        // Another baker ahead of none, at like.
        StayHouse x = Check.open(TWO + SORT.replace("worth 20", "worth 10") + "prices two 5,11;keep 50");
        x.ask(1, 1, 1);
        Check.due("the other has nothing for it", x.has(1, 0, 0), 0);
        Check.due("the other ahead of none", x.choose(1, 0), 0);
    }

    private static void halfOfLeaving() {
        int[][] halves = {{0, 0}, {1, 0}, {2, 1}, {3, 1}, {4, 2}, {98, 49}, {99, 49}};
        for (int[] h : halves) {
            String text = TOWN.replace("leaves 5", "leaves " + h[0]);
            StayHouse apart = Check.open(text);
            StayHouse alike = Check.open(text.replace("fits 2", "fits 1"));
            Check.due("whole of " + h[0], apart.has(1, 0, 0), 15 - h[0]);
            Check.due("half of " + h[0], alike.has(1, 0, 0), 15 - h[1]);
            Check.due("the other way", alike.has(0, 0, 1), 15 - h[1]);
            Check.due("own", alike.has(1, 0, 1), 15);
        }
        // Alike is the same number, 0 and 9 too; none of the next ones.
        int[][] fits = {{0, 0}, {0, 1}, {8, 9}, {9, 9}, {0, 9}};
        for (int[] f : fits) {
            StayHouse x = Check.open(TOWN.replace("fits 1", "fits " + f[0]).replace("b costs 4 fits 2", "b costs 4 fits " + f[1]));
            Check.due("fits " + f[0] + " " + f[1], x.has(1, 0, 0), f[0] == f[1] ? 13 : 10);
        }
        StayHouse three = Check.open(THREE.replace("fits 3", "fits 1") + SORT + "prices two 5,10;keep 50");
        Check.due("third and first fit", three.has(2, 0, 0), 13);
        Check.due("third and second don't", three.has(2, 0, 1), 10);
    }

    private static void noLeavingForNewOnes() {
        StayHouse x = Check.open(TOWN.replace("leaves 5", "leaves 99"));
        for (int b = 0; b < 2; b++) {
            Check.due("a new one", x.has(-1, 0, b), 15);
            Check.due("its own", x.has(b, 0, b), 15);
            Check.due("of the other", x.has(1 - b, 0, b), -84);
            Check.due("none costs no leaving", x.has(b, 0, -2), 0);
        }
    }

    /** Far looking: what comes next year times keep by 100, downwards. */
    private static void byHundredthsOfKeep() {
        int[][] due = {{1, 99, 0}, {1, 100, 1}, {2, 49, 0}, {2, 50, 1}, {2, 99, 1}, {3, 33, 0}, {3, 34, 1}, {3, 66, 1}, {3, 67, 2},
            {0, 100, 0}, {100, 1, 1}, {99, 1, 0}, {101, 1, 1}, {194, 0, 0}, {194, 100, 194}, {194, 99, 192}};
        for (int[] d : due) {
            StayHouse x = Check.open(TWO + SORT.replace("worth 20", "worth " + (d[0] + 5)).replace("near", "far") + "prices one 5;keep " + d[1]);
            Check.due("of its own " + d[0] + " by " + d[1], x.has(0, 0, 0), d[0] + d[2]);
            Check.due("of the other", x.has(0, 0, 1), d[0] - 5 + d[2]);
            Check.due("of none, then new", x.has(0, 0, -2), d[2]);
            Check.due("a new one", x.has(-1, 0, 1), d[0] + d[2]);
        }
    }

    /** Next year one may go to none: what comes is never below 0. */
    private static void neverLessThanNone() {
        for (int worth = 3; worth <= 7; worth++) {
            StayHouse x = Check.open(TWO + SORT.replace("worth 20", "worth " + worth).replace("near", "far") + "prices one 5;keep 100");
            int more = Math.max(0, worth - 5);
            Check.due("a new one at " + worth, x.has(-1, 0, 0), worth - 5 + more);
            Check.due("none at " + worth, x.has(-1, 0, -2), more);
            Check.due("choice at " + worth, x.choose(-1, 0), worth < 5 ? -2 : 0);
        }
    }

    /** Both prices together decide for a far looking new one with keep 100; of like sums the least baker. */
    private static void farLikeOnes() {
        String text = TWO + SORT.replace("leaves 5", "leaves 99").replace("near", "far") + "prices two 5,6,7;keep 100";
        int[][] asked = {{1, 1, 2, 0, 0}, {2, 0, 1, 1, 0}, {2, 1, 1, 1, 1}, {1, 1, 2, 1, 0}, {1, 2, 2, 0, 1}};
        for (int[] a : asked) {
            StayHouse x = Check.open(text);
            x.ask(0, a[0], a[1]);
            x.ask(1, a[2], a[3]);
            Check.due("first", x.has(-1, 0, 0), 30 - a[0] - a[1]);
            Check.due("second", x.has(-1, 0, 1), 30 - a[2] - a[3]);
            Check.due("choice of " + a[0] + a[1] + a[2] + a[3], x.choose(-1, 0), a[4]);
        }
    }

    /** Going to none now to be new next year: against its own at like, its own. */
    private static void farHeldOnesWithoutBaker() {
        int[] due = {1, 1, -2};
        for (int i = 0; i < 3; i++) {
            int dear = 14 + i;
            StayHouse x = Check.open(TWO + "sort s new 0 worth 20 leaves 99 stays 50 far;prices two 10," + dear + ";keep 100");
            x.ask(1, 1, 0);
            Check.due("own, twice", x.has(1, 0, 1), 2 * (20 - dear));
            Check.due("none, then new", x.has(1, 0, -2), 10);
            Check.due("choice at " + dear, x.choose(1, 0), due[i]);
        }
    }

    private static final String LOOKS = TWO + "sort n new 7 worth 20 leaves 9 stays 100 near;sort f new 4 worth 30 leaves 9 stays 100 far;"
        + "prices two 5,6,10;keep 100";

    /** 5 now and 10 then, or 6 and 6: near ones go to the first, far ones to the second. */
    private static StayHouse looks() {
        StayHouse x = Check.open(LOOKS);
        x.ask(0, 2, 0);
        x.ask(1, 1, 1);
        return x;
    }

    /** No call ahead of it has turned to that sort. */
    private static void firstCallOfATown() {
        Check.due("choose near", looks().choose(-1, 0), 0);
        Check.due("choose far", looks().choose(-1, 1), 1);
        Check.due("has near", looks().has(-1, 0, 0), 15);
        Check.due("has far", looks().has(-1, 1, 1), 48);
        StayHouse x = looks();
        x.has(-1, 0, 0);
        Check.due("choose far behind has near", x.choose(-1, 1), 1);
        x.has(-1, 1, 0);
        Check.due("choose near behind has far", x.choose(-1, 0), 0);
        Check.due("has far behind choose near", x.has(-1, 1, 0), 45);
    }

    private static void farNewOnesInAYear() {
        for (int seed : new int[] {0, 1, 1000}) {
            StayHouse x = looks();
            x.seed(seed);
            x.go(1);
            int near = seed == 0 ? 7 : 7 + next(seed) % 3 - 1;
            int far = seed == 0 ? 4 : 4 + next(next(seed)) % 3 - 1;
            Check.due("near ones by the first", x.held(0, 0), near);
            Check.due("near ones by the second", x.held(1, 0), 0);
            Check.due("far ones by the first", x.held(0, 1), 0);
            Check.due("far ones by the second", x.held(1, 1), far);
            Check.due("paid to the first", x.earned(0, 0), near * 3);
            Check.due("paid to the second", x.earned(1, 0), far * 2);
        }
    }

    // ---- years

    private static void staysByHundredths() {
        int[][] due = {{99, 1, 0}, {100, 1, 1}, {101, 1, 1}, {199, 1, 1}, {200, 1, 2}, {1, 99, 0}, {1, 100, 1}, {2, 99, 1}, {2, 50, 1}, {2, 49, 0},
            {3, 33, 0}, {3, 34, 1}, {9999, 0, 0}, {9999, 100, 9999}, {9999, 99, 9899}, {9999, 1, 99}, {0, 100, 0}};
        for (int[] d : due) {
            StayHouse x = Check.open(TOWN.replace("new 10", "new 0").replace("stays 50", "stays " + d[1]));
            x.hold(1, 0, d[0]);
            Check.due("nobody left", x.go(1), 0);
            Check.due(d[0] + " by " + d[1], x.held(1, 0), d[2]);
            Check.due("nobody came to the other", x.held(0, 0), 0);
        }
    }

    /** Those who stay, those who come from another baker and those who are new: rounded once. */
    private static void staysTogether() {
        for (int third = 33; third <= 35; third++) {
            StayHouse x = Check.open(TOWN.replace("new 10", "new 33").replace("leaves 5 stays 50", "leaves 0 stays 1"));
            x.ask(1, 1, 1);
            x.hold(0, 0, 33);
            x.hold(1, 0, third);
            Check.due("those of the second leave", x.go(1), third);
            Check.due("33, 33 and " + third, x.held(0, 0), third < 34 ? 0 : 1);
            Check.due("earned of all", x.earned(0, 0), (66 + third) * 3);
        }
    }

    private static void staysApart() {
        StayHouse x = Check.open(TWO + "sort s new 0 worth 20 leaves 5 stays 1 near;sort t new 0 worth 20 leaves 5 stays 1 near;"
            + "sort u new 0 worth 20 leaves 5 stays 100 near;prices two 5,10;keep 50");
        x.hold(0, 0, 99);
        x.hold(1, 0, 99);
        x.hold(0, 1, 99);
        x.hold(1, 1, 101);
        x.hold(0, 2, 7);
        x.go(1);
        Check.due("each baker by itself", x.held(0, 0) + x.held(1, 0), 0);
        Check.due("each sort by itself", x.held(0, 1), 0);
        Check.due("a hundred and one", x.held(1, 1), 1);
        Check.due("each by its own stays", x.held(0, 2), 7);
    }

    private static void boundsOfSeed() {
        StayHouse x = Check.open(TOWN);
        Check.due("no seed at first", x.size(6), 0);
        for (int v : new int[] {1, 65535, 65536, 0, 7}) {
            Check.due("seed " + v, x.seed(v), true);
            Check.due("trouble", x.trouble(), 0);
            Check.due("size 6", x.size(6), v);
        }
        for (int v : new int[] {-1, 65537, 65538, LEAST, MOST}) {
            refused("seed " + v, x, x.seed(v), 2);
            Check.due("seed stays", x.size(6), 7);
        }
    }

    private static int next(int seed) {
        return (int) ((75L * seed + 74) % 65537);
    }

    /** Seeds by what becomes of them: one less, as told, one more. */
    private static int seedFor(int move) {
        for (int seed = 1; seed < 65537; seed++) {
            if (next(seed) % 3 - 1 == move && next(seed) > 0) {
                return seed;
            }
        }
        return 0;
    }

    private static void seedMovesNewOnes() {
        for (int fresh : new int[] {0, 1, 2, 10, 98, 99}) {
            for (int move = -1; move <= 1; move++) {
                StayHouse x = Check.open(TOWN.replace("new 10", "new " + fresh).replace("stays 50", "stays 100"));
                int seed = seedFor(move);
                x.seed(seed);
                x.go(1);
                Check.due("new " + fresh + " moved by " + move, x.held(0, 0), Math.max(0, fresh + move));
                Check.due("seed", x.size(6), next(seed));
                Check.due("as told still", x.sort(0, 0), fresh);
            }
        }
        for (int seed : new int[] {0, 1, 2, 65535, 65536}) {
            StayHouse x = Check.open(TOWN.replace("stays 50", "stays 100"));
            x.seed(seed);
            x.go(1);
            Check.due("seed " + seed + " then", x.size(6), seed == 0 ? 0 : next(seed));
            Check.due("new by " + seed, x.held(0, 0), seed == 0 ? 10 : 10 + next(seed) % 3 - 1);
        }
    }

    /** 0 at least, and from what is told each time: what was lost is not owed later. */
    private static void seedAndNoNewOnes() {
        StayHouse x = Check.open(TOWN.replace("new 10", "new 0").replace("stays 50", "stays 100"));
        int seed = seedFor(-1);
        x.seed(seed);
        int due = 0;
        for (int year = 0; year < 10; year++) {
            seed = next(seed);
            due += Math.max(0, seed % 3 - 1);
            x.go(1);
            Check.due("held after " + year, x.held(0, 0), due);
        }
        Check.due("somebody came", due > 0, true);
    }

    private static void seedAcrossSortsAndYears() {
        StringBuilder sorts = new StringBuilder();
        for (int s = 0; s < 4; s++) {
            sorts.append("sort s").append((char) ('a' + s)).append(" new ").append(10 + s).append(" worth 20 leaves 5 stays 100 ")
                .append(s % 2 == 0 ? "near;" : "far;");
        }
        StayHouse x = Check.open(TWO + sorts + "prices two 5,10;keep 50");
        int seed = 4711;
        x.seed(seed);
        x.go(3);
        int[] due = new int[4];
        for (int i = 0; i < 12; i++) {
            seed = next(seed);
            due[i % 4] += 10 + i % 4 + seed % 3 - 1;
        }
        Check.due("seed after twelve", x.size(6), seed);
        for (int s = 0; s < 4; s++) {
            Check.due("held of sort " + s, x.held(0, s), due[s]);
        }
    }

    /** What becomes of a seed may be 0: no seed then, in the years behind it too. */
    private static void seedEnds() {
        Check.due("the one whose next is 0", next(45438), 0);
        Check.due("its neighbours are not", next(45437) > 0 && next(45439) > 0, true);
        int[][] due = {{45437, 9}, {45438, 9}, {45439, 10}};
        due[0][1] = 10 + next(45437) % 3 - 1;
        due[2][1] = 10 + next(45439) % 3 - 1;
        for (int[] d : due) {
            StayHouse x = Check.open(TOWN.replace("stays 50", "stays 100"));
            x.seed(d[0]);
            x.go(1);
            Check.due("first year by " + d[0], x.held(0, 0), d[1]);
            Check.due("seed", x.size(6), next(d[0]));
            x.go(1);
            int second = next(d[0]) == 0 ? 10 : 10 + next(next(d[0])) % 3 - 1;
            Check.due("second year by " + d[0], x.held(0, 0), d[1] + second);
        }
        StayHouse still = Check.open(TOWN.replace("stays 50", "stays 100"));
        still.seed(65536);
        still.go(2);
        Check.due("65,536 stays so", still.size(6), 65536);
        Check.due("65,536 mod 3 less 1 is 0", still.held(0, 0), 20);
    }

    private static void howManyYearsAtOnce() {
        for (int n : new int[] {1, 2, 9, 10}) {
            StayHouse x = Check.open(TOWN);
            Check.due("go " + n, x.go(n), 0);
            Check.due("trouble", x.trouble(), 0);
            Check.due("years", x.size(5), n);
        }
        for (int n : new int[] {0, -1, 11, 12, 40, 41, LEAST, MOST}) {
            StayHouse x = Check.open(TOWN);
            x.hold(0, 0, 8);
            refused("go " + n, x, x.go(n), -1, 2);
            Check.due("no year", x.size(5), 0);
            Check.due("held stays", x.held(0, 0), 8);
        }
    }

    private static StayHouse after(int years) {
        StayHouse x = Check.open(TOWN);
        for (int i = 0; i < years / 10; i++) {
            x.go(10);
        }
        if (years % 10 > 0) {
            x.go(years % 10);
        }
        Check.due("years", x.size(5), years);
        return x;
    }

    private static void howManyYearsInAll() {
        int[][] fits = {{30, 10}, {31, 9}, {39, 1}, {38, 2}, {29, 10}};
        for (int[] f : fits) {
            StayHouse x = after(f[0]);
            Check.due("room for " + f[1], x.go(f[1]), 0);
            Check.due("years", x.size(5), f[0] + f[1]);
        }
        int[][] refused = {{31, 10}, {32, 9}, {39, 2}, {40, 1}, {40, 10}};
        for (int[] r : refused) {
            StayHouse x = after(r[0]);
            int held = x.held(0, 0);
            refused("no room for " + r[1], x, x.go(r[1]), -1, 3);
            Check.due("years stay", x.size(5), r[0]);
            Check.due("held stays", x.held(0, 0), held);
            Check.due("no part of them", x.earned(0, r[0]), Long.MIN_VALUE);
            refused("a number ahead of room", x, x.go(11), -1, 2);
            x.again(r[0] - 1);
            Check.due("room again", x.go(1), 0);
        }
    }

    private static void whichYearAgain() {
        for (int years : new int[] {0, 1, 5, 40}) {
            StayHouse x = after(years);
            for (int y : new int[] {-1, years + 1, years + 2, LEAST, MOST}) {
                refused("again " + y, x, x.again(y), 2);
                Check.due("years stay", x.size(5), years);
            }
            Check.due("again now", x.again(years), true);
            Check.due("trouble", x.trouble(), 0);
            Check.due("years", x.size(5), years);
            if (years > 0) {
                Check.due("the last one", x.again(years - 1), true);
                Check.due("years", x.size(5), years - 1);
                refused("that is none then", x, x.again(years), 2);
            }
            Check.due("the first one", x.again(0), true);
            Check.due("years", x.size(5), 0);
            refused("none is left", x, x.again(1), 2);
        }
    }

    /** Ahead of each year something else was told; each comes again as it was. */
    private static void againAheadOfAll() {
        StayHouse x = Check.open(TOWN);
        for (int y = 0; y < 5; y++) {
            x.hold(1, 0, 100 + y);
            x.ask(1, y % 2, y / 2 % 2);
            x.seed(1000 + y);
            x.go(1);
        }
        x.hold(1, 0, 9000);
        x.ask(1, 1, 1);
        x.seed(9);
        Check.due("ahead of the next", x.again(5), true);
        Check.due("held", x.held(1, 0), 9000);
        Check.due("asked", 10 * x.baker(1, 3) + x.baker(1, 4), 11);
        Check.due("seed", x.size(6), 9);
        for (int y = 4; y >= 0; y--) {
            x.change(0, 10 + y);
            Check.due("again " + y, x.again(y), true);
            Check.due("held ahead of " + y, x.held(1, 0), 100 + y);
            Check.due("asked ahead of " + y, 10 * x.baker(1, 3) + x.baker(1, 4), 10 * (y % 2) + y / 2 % 2);
            Check.due("seed ahead of " + y, x.size(6), 1000 + y);
            Check.due("costs are as they are", x.baker(0, 0), 10 + y);
            refused("it is none then", x, x.earned(0, y), Long.MIN_VALUE, 1);
        }
    }

    private static void whichYearEarned() {
        for (int years : new int[] {0, 1, 2, 40}) {
            StayHouse x = after(years);
            for (int y : new int[] {-1, years, years + 1, 41, LEAST, MOST}) {
                refused("earned in " + y, x, x.earned(0, y), Long.MIN_VALUE, 1);
            }
            if (years > 0) {
                Check.due("in the first", x.earned(0, 0), 30);
                Check.due("trouble", x.trouble(), 0);
                Check.due("in the last", x.earned(0, years - 1), years == 1 ? 30 : years == 2 ? 45 : 57);
            }
        }
    }

    /** To another or to none; not who stays, who is new, or who is no more. */
    private static void whoLeft() {
        for (int n = 0; n <= 2; n++) {
            StayHouse x = Check.open(TOWN.replace("leaves 5", "leaves 0"));
            x.ask(1, 1, 1);
            x.hold(0, 0, 50);
            x.hold(1, 0, n);
            Check.due("to another", x.go(1), n);
            Check.due("in that year", Check.led(x, 0), n > 0 ? 0 : -1);
            StayHouse none = Check.open(TOWN.replace("worth 20", "worth 4"));
            none.hold(1, 0, n);
            Check.due("to none", none.go(1), n);
            Check.due("in that year", Check.led(none, 0), n > 0 ? 0 : -1);
        }
        StayHouse gone = Check.open(TOWN.replace("stays 50", "stays 0"));
        gone.hold(0, 0, 50);
        Check.due("who is no more has not left", gone.go(2), 0);
        Check.due("in no year", Check.led(gone, 0), -1);
        // Over years they are added up.
        StayHouse sum = Check.open(TOWN.replace("leaves 5 stays 50", "leaves 0 stays 100"));
        sum.hold(0, 0, 3);
        sum.hold(1, 0, 4);
        sum.ask(0, 1, 1);
        Check.due("three of the first", sum.go(1), 3);
        sum.ask(0, 0, 0);
        sum.ask(1, 1, 1);
        Check.due("seventeen of the second, once", sum.go(10), 17);
    }

    private static void whichLed() {
        StayHouse x = Check.open(TOWN.replace("leaves 5", "leaves 0"));
        x.hold(1, 0, 9);
        x.ask(1, 1, 1);
        x.go(2);
        x.hold(1, 0, 9);
        x.go(3);
        x.hold(1, 0, 9);
        x.go(1);
        int[] due = {0, 2, 5};
        for (int i = 0; i < 3; i++) {
            Check.due("led " + i, Check.led(x, i), due[i]);
        }
        for (int i : new int[] {-1, 3, 4, 5, LEAST, MOST}) {
            Check.due("led " + i, Check.led(x, i), -1);
        }
        x.again(5);
        Check.due("the last is none then", Check.led(x, 2), -1);
        Check.due("the one ahead of it is", Check.led(x, 1), 2);
        x.again(0);
        Check.due("none at all", Check.led(x, 0), -1);
        Check.due("without a town", Check.led(new StayHouse(), 0), -1);
        StayHouse all = Check.open(TOWN.replace("leaves 5", "leaves 0"));
        all.ask(1, 1, 1);
        for (int y = 0; y < 40; y++) {
            all.hold(1, 0, 1);
            all.go(1);
        }
        Check.due("the fortieth", Check.led(all, 39), 39);
        Check.due("no more", Check.led(all, 40), -1);
    }

    // ---- change, size, baker, sort

    private static void boundsOfChange() {
        StayHouse x = Check.open(TOWN);
        int[] values = {3, 1, 0, 1, 98, 99, 99, 0, 99, 50};
        int before = 2;
        for (int v : values) {
            Check.due("change to " + v, x.change(0, v), v - before);
            Check.due("trouble", x.trouble(), 0);
            Check.due("costs", x.baker(0, 0), v);
            before = v;
        }
        for (int v : new int[] {-1, 100, 101, -1000, LEAST, MOST}) {
            refused("change to " + v, x, x.change(0, v), -1000, 2);
            refused("none such ahead of that", x, x.change(2, v), -1000, 1);
            Check.due("costs stay", x.baker(0, 0), 50);
        }
        Check.due("the other's stay", x.baker(1, 0), 4);
    }

    private static void whatOfSize() {
        StayHouse none = new StayHouse();
        StayHouse x = Check.open(THREE + SORT + "prices two 5,10,15;keep 50");
        int[] due = {3, 1, 3, 1, 50, 0, 0, 0, 9};
        for (int what = 0; what <= 8; what++) {
            Check.due("there isn't " + what, none.size(what), 0);
            Check.due("size " + what, x.size(what), due[what]);
        }
        for (int what : new int[] {-1, 9, 10, LEAST, MOST}) {
            Check.due("no such " + what, none.size(what), -1);
            Check.due("no such " + what, x.size(what), -1);
        }
        none.feed(0, 0, 0, 0, 0);
        Check.due("the tape without a town", none.size(7), 20);
        x.feed(0, 0, 0, 0, 0);
        Check.due("the tape with one", x.size(7), 20);
    }

    private static void whatOfBakerAndSort() {
        StayHouse x = Check.open(TOWN);
        x.ask(1, 1, 0);
        int[] baker = {4, 2, 10, 1, 0};
        int[] sort = {10, 20, 5, 50, 0};
        for (int what = 0; what <= 4; what++) {
            Check.due("baker " + what, x.baker(1, what), baker[what]);
            Check.due("sort " + what, x.sort(0, what), sort[what]);
            Check.due("no such baker", x.baker(2, what), -1);
            Check.due("no such sort", x.sort(1, what), -1);
            Check.due("no town", new StayHouse().baker(0, what), -1);
            Check.due("no town", new StayHouse().sort(0, what), -1);
        }
        for (int what : new int[] {-1, 5, 6, LEAST, MOST}) {
            Check.due("baker " + what, x.baker(1, what), -1);
            Check.due("sort " + what, x.sort(0, what), -1);
        }
    }
}
