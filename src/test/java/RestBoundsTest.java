/** The boundary cases of Terms III and of promises 15 to 28: each at the case itself and on both sides of it. */
public final class RestBoundsTest {
    private static final String FREE = "baker a costs 0 fits 1 enters 0;baker b costs 0 fits 2 enters 0;";
    /** Buyers that never leave; a new one goes where it is cheaper, to the first if like. */
    private static final String CAPTIVE = FREE + "sort s new 10 worth 50 leaves 99 stays 100 near;prices two 5,10;keep 100";
    private static final String SINGLE = CAPTIVE.replace("two", "one");
    private static final int LEAST = Integer.MIN_VALUE;
    private static final int MOST = Integer.MAX_VALUE;
    private static final long NO = Long.MIN_VALUE;

    public static void main(String[] args) {
        howManyYears();
        howManyActs();
        worthDownwards();
        worthDownwardsOverThree();
        nothingBehindTheLastYear();
        noMoreIsAtRest();
        firstBySecondBaker();
        firstByFirstBaker();
        leastOfGreatestGains();
        sureOrNot();
        unsureOnlyAhead();
        severalSortsAndYears();
        noSeedAtRest();
        whatOfAct();
        latestRest();
        gainAtLike();
        bestOfLikeOnes();
        whichLaw();
        leavingHalf();
        lookingByLaw();
        leavingsToNone();
        kindestOfLikeOnes();
        promisedStep();
        shapeOfWhom();
        fitOfLikeOnes();
        enters();
        luresAndWar();
        edgeFromNoneToAll();
        edgeDownwards();
        Check.end();
    }

    private static StayHouse held(String text, int first, int second) {
        StayHouse x = Check.open(text);
        x.hold(0, 0, first);
        x.hold(1, 0, second);
        return x;
    }

    private static void refused(String what, StayHouse x, long answer, long none, int trouble) {
        Check.due(what, answer, none);
        Check.due(what + " by", x.trouble(), trouble);
    }

    // ---- how many years, how many acts

    private static void allOver(StayHouse x, int n, int trouble) {
        String over = " over " + n;
        boolean fine = trouble == 0;
        Check.due("rest" + over, x.rest(n) >= 0, fine);
        Check.due("rest" + over + " by", x.trouble(), trouble);
        for (int law = 0; law <= 5; law++) {
            int byLaw = law == 1 && trouble == 3 ? 0 : trouble;
            Check.due("paid" + over + " law " + law, x.paid(0, n, law) != NO, byLaw == 0);
            Check.due("paid" + over + " by", x.trouble(), byLaw);
            Check.due("leavings" + over + " law " + law, x.leavings(0, n, law) != NO, byLaw == 0);
            Check.due("leavings" + over + " by", x.trouble(), byLaw);
        }
        Check.due("kindest" + over, x.kindest(0, n) >= 0, fine);
        Check.due("kindest" + over + " by", x.trouble(), trouble);
        for (int step = 0; step < x.size(2); step++) {
            Check.due("promise" + over, x.promise(1, step, n) != NO, fine);
            Check.due("promise" + over + " by", x.trouble(), trouble);
        }
        Check.due("shape" + over, x.shape(0, 1, n) != NO, fine);
        Check.due("shape" + over + " by", x.trouble(), trouble);
        Check.due("fit" + over, x.fit(1, n) >= 0, fine);
        Check.due("fit" + over + " by", x.trouble(), trouble);
        Check.due("late" + over, x.late(0, n) >= 0, fine);
        Check.due("late" + over + " by", x.trouble(), trouble);
    }

    private static void howManyYears() {
        for (String text : new String[] {CAPTIVE, SINGLE}) {
            for (int n : new int[] {LEAST, -1, 0, 1, 2, 3, 4, 5, MOST}) {
                allOver(held(text, 3, 2), n, n >= 1 && n <= 3 ? 0 : 2);
            }
        }
        // A number ahead of no room.
        allOver(room("two", 3, 3), 4, 2);
        allOver(room("two", 3, 3), 0, 2);
    }

    private static StayHouse room(String how, int bakers, int steps) {
        String third = bakers == 3 ? "baker c costs 0 fits 3 enters 0;" : "";
        String prices = "5,6,7".substring(0, 2 * steps - 1);
        return Check.open(FREE + third + "sort s new 1 worth 50 leaves 9 stays 100 near;prices " + how + " " + prices + ";keep 50");
    }

    /** Acts of a baker, to the number of bakers, to the number of years: 19,683 is not above 20,000, 262,144 is. */
    private static void howManyActs() {
        long below = 0;
        long above = Long.MAX_VALUE;
        for (String how : new String[] {"one", "two"}) {
            for (int bakers = 2; bakers <= 3; bakers++) {
                for (int steps = 1; steps <= 3; steps++) {
                    for (int n = 1; n <= 3; n++) {
                        long acts = 1;
                        for (int i = 0; i < n * bakers; i++) {
                            acts *= how.equals("one") ? steps : steps * steps;
                        }
                        below = acts <= 20000 ? Math.max(below, acts) : below;
                        above = acts > 20000 ? Math.min(above, acts) : above;
                        allOver(room(how, bakers, steps), n, acts > 20000 ? 3 : 0);
                    }
                }
            }
        }
        Check.due("the most that goes", below, 19683);
        Check.due("the least that does not", above, 262144);
        // Over one year there is always room.
        Check.due("edge", room("two", 3, 3).edge() >= -2, true);
    }

    // ---- worth

    /** One step alone; new ones all go to the first baker and stay for no second year: each year it earns the same. */
    private static StayHouse each(int fresh, int price, int costs, int keep) {
        return Check.open("baker a costs " + costs + " fits 1 enters 0;baker b costs 0 fits 2 enters 0;sort s new " + fresh
            + " worth 199 leaves 0 stays 0 near;prices one " + price + ";keep " + keep);
    }

    private static void worthDownwards() {
        // Earned each year; keep; what comes of the second year.
        int[][] due = {{-1, 0, 0}, {-1, 1, -1}, {-1, 99, -1}, {-1, 100, -1}, {-99, 1, -1}, {-2, 50, -1}, {-2, 51, -2}, {-2, 49, -1},
            {-3, 33, -1}, {-3, 34, -2}, {-3, 100, -3}, {1, 0, 0}, {1, 99, 0}, {1, 100, 1}, {99, 1, 0}, {2, 49, 0}, {2, 50, 1}, {2, 51, 1}, {0, 100, 0}};
        for (int[] d : due) {
            StayHouse x = each(Math.abs(d[0]), d[0] < 0 ? 4 : 6, 5, d[1]);
            Check.due("rest", x.rest(1), 0);
            Check.due("over one year", x.worth(0), d[0]);
            Check.due("rest", x.rest(2), 0);
            Check.due(d[0] + " by " + d[1], x.worth(0), d[0] + d[2]);
            Check.due("by promise too", x.promise(0, 0, 2), d[0] + d[2]);
            Check.due("by shape too", x.shape(0, 1, 2), d[0] + d[2]);
            Check.due("paid is not by hundredths", x.paid(0, 2, 0), 2L * Math.abs(d[0]) * (d[0] < 0 ? 4 : 6));
        }
        int[][] hundreds = {{50, 3, 5, -1}, {51, 3, 5, -2}, {49, 3, 5, -1}, {50, 7, 5, 1}, {51, 7, 5, 1}, {49, 7, 5, 0}};
        for (int[] h : hundreds) {
            StayHouse x = each(h[0], h[1], h[2], 1);
            x.rest(2);
            Check.due("a hundredth of " + h[0] * (h[1] - h[2]), x.worth(0), h[0] * (h[1] - h[2]) + h[3]);
        }
    }

    private static void worthDownwardsOverThree() {
        int[][] due = {{-3, 30, -3 - 2}, {-3, 50, -3 - 3}, {3, 30, 3}, {3, 50, 3 + 2}, {-1, 1, -2}, {7, 15, 7 + 1}};
        for (int[] d : due) {
            StayHouse x = each(Math.abs(d[0]), d[0] < 0 ? 4 : 6, 5, d[1]);
            x.rest(3);
            int two = d[0] + Math.floorDiv(d[0] * d[1], 100);
            Check.due("rounded year by year", x.worth(0), d[0] + Math.floorDiv(two * d[1], 100));
            Check.due("by hand " + d[0] + " by " + d[1], x.worth(0), d[2]);
        }
    }

    /** The last year's held ones are worth nothing then: with keep 100 as well. */
    private static void nothingBehindTheLastYear() {
        StayHouse x = held(CAPTIVE.replace("new 10", "new 0"), 7, 0);
        for (int n = 1; n <= 3; n++) {
            x.rest(n);
            Check.due("seven pay ten a year", x.worth(0), 70 * n);
            Check.due("paid", x.paid(0, n, 0), 70 * n);
        }
    }

    // ---- at rest

    /** One price, nobody held by the second: the first has 5 of all, or 10 of those it holds. At like it stays with the first act. */
    private static void noMoreIsAtRest() {
        for (int n = 8; n <= 12; n++) {
            StayHouse x = held(SINGLE, n, 0);
            Check.due("sure", x.rest(1), 0);
            Check.due("first's act with " + n, x.act(0, 0), n <= 10 ? 0 : 1);
            Check.due("second's act", x.act(1, 0), 0);
            Check.due("worth", x.worth(0), n <= 10 ? 5 * (n + 10) : 10 * n);
        }
    }

    /** The first holds ten: it asks 10 whatever the second asks. The second has 5 of ten more, or 10 of its own. */
    private static void firstBySecondBaker() {
        for (int n = 8; n <= 12; n++) {
            StayHouse x = held(SINGLE, 10, n);
            Check.due("sure", x.rest(1), 0);
            Check.due("first's act", x.act(0, 0), 1);
            Check.due("second's act with " + n, x.act(1, 0), n <= 10 ? 0 : 1);
            Check.due("worth", x.worth(1), n <= 10 ? 5 * (n + 10) : 10 * n);
        }
    }

    /** New ones are poor: who asks 5 has them. With ten both 5, 10 and 10, 5 are at rest: the first baker's act leads. */
    private static void firstByFirstBaker() {
        String text = FREE + "sort rich new 0 worth 50 leaves 99 stays 100 near;sort poor new 10 worth 5 leaves 99 stays 100 near;"
            + "prices one 5,10;keep 100";
        for (int n = 9; n <= 11; n++) {
            StayHouse x = held(text, n, 5);
            Check.due("sure", x.rest(1), 0);
            Check.due("first's act with " + n, x.act(0, 0), n <= 10 ? 0 : 1);
            Check.due("second's act with " + n, x.act(1, 0), n <= 10 ? 1 : 0);
        }
    }

    /** Nothing at rest: at 5, 5 the second gains 5 by each it holds; at 10, 5 the first gains 5 by each it lacks of ten. */
    private static void leastOfGreatestGains() {
        int[][] due = {{8, 1, 0}, {9, 1, 0}, {9, 2, 1}, {8, 2, 0}, {8, 3, 1}, {7, 3, 0}, {7, 4, 1}};
        for (int[] d : due) {
            StayHouse x = held(SINGLE, d[0], d[1]);
            Check.due("unsure", x.rest(1), 1);
            Check.due("first's act with " + d[0] + " and " + d[1], x.act(0, 0), d[2]);
            Check.due("second's act", x.act(1, 0), 0);
            Check.due("first's worth", x.worth(0), d[2] == 0 ? 5 * (d[0] + 10) : 10 * d[0]);
            Check.due("second's worth", x.worth(1), d[2] == 0 ? 5 * d[1] : 5 * (d[1] + 10));
        }
    }

    private static void sureOrNot() {
        Check.due("nobody to gain by", held(SINGLE, 9, 0).rest(1), 0);
        Check.due("one to gain by", held(SINGLE, 9, 1).rest(1), 1);
        Check.due("nothing lacks", held(SINGLE, 10, 1).rest(1), 0);
        // A gain of one is a gain.
        StayHouse one = held(SINGLE.replace("5,10", "1,2"), 9, 1);
        Check.due("a gain of one", one.rest(1), 1);
        Check.due("sure with two prices", held(CAPTIVE, 9, 1).rest(1), 0);
        Check.due("one step is always sure", held(SINGLE.replace("5,10", "5"), 9, 1).rest(3), 0);
    }

    /** Sure now; unsure only in what would be held after acts that nobody takes. */
    private static void unsureOnlyAhead() {
        String text = FREE + "sort s new 10 worth 50 leaves 99 stays STAYS near;prices one 5,10;keep 0";
        for (int stays : new int[] {0, 50, 81, 82, 83, 100}) {
            StayHouse x = held(text.replace("STAYS", "" + stays), 11, 1);
            // Next year's: the new ones went to the first (5, 5; 5, 10; 10, 10), or to the second (10, 5).
            int[][] next = {{21 * stays / 100, stays / 100}, {11 * stays / 100, 11 * stays / 100}};
            int due = 0;
            for (int[] n : next) {
                due = Math.max(due, held(text.replace("STAYS", "" + stays), n[0], n[1]).rest(1));
            }
            Check.due("sure over one", x.rest(1), 0);
            Check.due("over two with " + stays, x.rest(2), due);
        }
        Check.due("with 83 it is not", held(text.replace("STAYS", "83"), 11, 1).rest(2), 1);
        Check.due("with 0 it is", held(text.replace("STAYS", "0"), 11, 1).rest(2), 0);
    }

    private static final String[] SEVERAL = {
        "baker a costs 2 fits 1 enters 90;baker b costs 4 fits 2 enters 40;sort s new 10 worth 20 leaves 3 stays 50 near;"
            + "sort t new 4 worth 12 leaves 1 stays 80 far;prices two 5,10;keep 70",
        "baker a costs 3 fits 1 enters 30;baker b costs 1 fits 1 enters 60;baker c costs 2 fits 2 enters 30;"
            + "sort s new 9 worth 30 leaves 6 stays 70 far;sort t new 5 worth 9 leaves 2 stays 100 near;"
            + "sort u new 3 worth 16 leaves 4 stays 90 near;sort v new 6 worth 40 leaves 9 stays 30 far;prices one 4,8,14;keep 90",
        "baker a costs 5 fits 3 enters 20;baker b costs 6 fits 3 enters 20;baker c costs 7 fits 3 enters 20;"
            + "sort s new 7 worth 25 leaves 8 stays 60 near;sort t new 8 worth 13 leaves 5 stays 95 far;prices two 6,11;keep 45",
        "baker a costs 13 fits 0 enters 51;baker b costs 8 fits 1 enters 99;sort s new 6 worth 1 leaves 9 stays 54 far;"
            + "sort t new 2 worth 54 leaves 6 stays 70 far;prices two 3,8,15;keep 100"};

    /** Every call that looks ahead, over as many years as there is room for, held against the plain model. */
    private static void severalSortsAndYears() {
        int[] most = {3, 3, 2, 2};
        for (int t = 0; t < SEVERAL.length; t++) {
            StayHouse x = Check.open(SEVERAL[t]);
            Plain y = new Plain();
            Check.feed(y, SEVERAL[t]);
            y.town(SEVERAL[t].length());
            for (int b = 0; b < x.size(0); b++) {
                for (int s = 0; s < x.size(1); s++) {
                    int n = (5 * b + 7 * s + 3 * t) % 13;
                    Check.due("hold", x.hold(b, s, n), y.hold(b, s, n) == 1);
                }
            }
            for (int n = 1; n <= most[t]; n++) {
                aheadAsPlain(x, y, n);
            }
        }
    }

    private static void aheadAsPlain(StayHouse x, Plain y, int n) {
        Check.due("rest over " + n, x.rest(n), y.rest(n));
        for (int b = 0; b < x.size(0); b++) {
            Check.due("worth", x.worth(b), y.worth(b));
            Check.due("old", x.act(b, 0), y.act(b, 0));
            Check.due("new", x.act(b, 1), y.act(b, 1));
            Check.due("promise", x.promise(b, 0, n), y.promise(b, 0, n));
            Check.due("shape", x.shape(b, 1, n), y.shape(b, 1, n));
            Check.due("late", x.late(b, n), y.late(b, n));
        }
        for (int s = 0; s < x.size(1); s++) {
            for (int law = 0; law <= 5; law++) {
                Check.due("paid by " + law, x.paid(s, n, law), y.paid(s, n, law));
                Check.due("leavings by " + law, x.leavings(s, n, law), y.leavings(s, n, law));
            }
        }
    }

    private static void noSeedAtRest() {
        StayHouse x = held(CAPTIVE, 4, 4);
        for (int seed : new int[] {0, 1, 1000, 65536}) {
            x.seed(seed);
            x.rest(2);
            Check.due("worth with seed " + seed, x.worth(0), 90 + 14 * 10 + 50);
            Check.due("gain with seed " + seed, x.gain(0), 20);
            Check.due("paid with seed " + seed, x.paid(0, 1, 0), 130);
            Check.due("the seed stays", x.size(6), seed);
            StayHouse alone = held(CAPTIVE, 4, 0);
            alone.seed(seed);
            Check.due("edge with seed " + seed, alone.edge(), 40);
        }
    }

    private static void whatOfAct() {
        StayHouse x = held(CAPTIVE, 4, 4);
        for (int what = 0; what <= 1; what++) {
            refused("act " + what, x, x.act(0, what), -1, 6);
            refused("lures " + what, x, x.lures(0, what), -1, 6);
        }
        refused("worth", x, x.worth(0), NO, 6);
        for (int round = 0; round < 2; round++) {
            for (int what : new int[] {-1, 2, 3, LEAST, MOST}) {
                refused("act " + what, x, x.act(0, what), -1, 1);
                refused("lures " + what, x, x.lures(0, what), -1, 1);
            }
            for (int b : new int[] {-2, -1, 2, 3, LEAST, MOST}) {
                refused("act of " + b, x, x.act(b, 0), -1, 1);
                refused("lures of " + b, x, x.lures(b, 0), -1, 1);
                refused("worth of " + b, x, x.worth(b), NO, 1);
            }
            x.rest(1);
        }
        Check.due("old", x.act(0, 0), 1);
        Check.due("new", x.act(0, 1), 0);
        Check.due("worth", x.worth(1), 40);
        Check.due("not refused", x.trouble(), 0);
    }

    /** Refused ones are none; a town that is refused does not end it, one that is not does. */
    private static void latestRest() {
        StayHouse x = held(CAPTIVE, 4, 4);
        x.rest(1);
        x.hold(0, 0, 1);
        for (int n : new int[] {0, 4}) {
            x.rest(n);
            Check.due("worth behind rest " + n, x.worth(0), 90);
        }
        x.town(-1);
        Check.due("worth behind a number", x.worth(0), 90);
        x.town(0);
        Check.due("worth behind a fault", x.worth(0), 90);
        x.rest(1);
        Check.due("worth behind the next", x.worth(0), 60);
        Check.town(x, CAPTIVE);
        refused("worth behind a town", x, x.worth(0), NO, 6);
        StayHouse big = room("two", 2, 3);
        big.rest(2);
        long worth = big.worth(0);
        big.hold(0, 0, 500);
        refused("no room", big, big.rest(3), -1, 3);
        Check.due("worth behind no room", big.worth(0), worth);
    }

    // ---- gain, best

    /** The second asks 5. The first has 5 of all or 10 of its own. */
    private static void gainAtLike() {
        for (int n = 8; n <= 12; n++) {
            StayHouse x = held(SINGLE, n, 0);
            Check.due("gain from 5 with " + n, x.gain(0), n <= 10 ? 0 : 5 * (n - 10));
            Check.due("best with " + n, x.best(0), n <= 10 ? 0 : 11);
            x.ask(0, 1, 1);
            Check.due("gain from 10 with " + n, x.gain(0), n < 10 ? 5 * (10 - n) : 0);
            Check.due("best then", x.best(0), n <= 10 ? 0 : 11);
            Check.due("asked stays", x.baker(0, 3), 1);
        }
    }

    private static void bestOfLikeOnes() {
        StayHouse x = Check.open(CAPTIVE.replace("new 10", "new 0").replace("5,10", "5,6,7"));
        Check.due("nobody there: the first", x.best(0), 0);
        x.ask(0, 2, 2);
        Check.due("whatever is asked", x.best(0), 0);
        Check.due("nothing to gain", x.gain(0), 0);
        x.hold(0, 0, 1);
        Check.due("one held: the last old step, the first new one", x.best(0), 20);
        x.hold(0, 0, 0);
        Check.town(x, CAPTIVE.replace("5,10", "5,6,7"));
        x.ask(0, 2, 2);
        Check.due("new ones alone, the other dear: the first", x.best(1), 1);
        x.ask(0, 0, 0);
        Check.due("the second has none in any way: the first", x.best(1), 0);
        // Costs above all prices: the least loss is to sell to nobody.
        x.change(0, 99);
        x.ask(1, 1, 1);
        Check.due("sells to nobody", x.best(0), 2);
        Check.due("and loses nothing", x.gain(0), 94 * 10);
    }

    // ---- laws

    private static void whichLaw() {
        StayHouse x = held(CAPTIVE, 4, 4);
        long[] due = {130, 90, 130, 90, 130, 130};
        for (int law = 0; law <= 5; law++) {
            if (law != 4) {
                Check.due("law " + law, x.paid(0, 1, law), due[law]);
            }
            Check.due("leavings by law " + law, x.leavings(0, 1, law), 0);
            Check.due("not refused", x.trouble(), 0);
        }
        for (int law : new int[] {-1, 6, 7, LEAST, MOST}) {
            refused("paid by law " + law, x, x.paid(0, 1, law), NO, 1);
            refused("leavings by law " + law, x, x.leavings(0, 1, law), NO, 1);
            refused("ahead of a number", x, x.paid(0, 0, law), NO, 1);
            refused("ahead of a number", x, x.leavings(0, 4, law), NO, 1);
        }
        for (int s : new int[] {-1, 1, 2, LEAST, MOST}) {
            refused("paid of " + s, x, x.paid(s, 1, 0), NO, 1);
            refused("leavings of " + s, x, x.leavings(s, 1, 0), NO, 1);
            refused("kindest of " + s, x, x.kindest(s, 1), -1, 1);
            refused("ahead of a number", x, x.kindest(s, 4), -1, 1);
        }
    }

    /** Both keep their own at 10 while leaving costs 5, what they would save; below that all pay 5. */
    private static void leavingHalf() {
        int[] leaves = {3, 4, 5, 6, 8, 9, 10, 11, 12, 99};
        for (int l : leaves) {
            StayHouse x = held(CAPTIVE.replace("leaves 99", "leaves " + l), 4, 4);
            Check.due("as told " + l, x.paid(0, 1, 0), l >= 5 ? 130 : 90);
            Check.due("half of " + l, x.paid(0, 1, 2), l / 2 >= 5 ? 130 : 90);
            Check.due("none of " + l, x.paid(0, 1, 3), 90);
            Check.due("told still", x.sort(0, 2), l);
        }
        StayHouse little = held(CAPTIVE.replace("5,10", "5,6"), 4, 4);
        Check.due("1 saved and 99 to leave", little.paid(0, 1, 0), 8 * 6 + 50);
        Check.due("1 saved and nothing to leave", little.paid(0, 1, 3), 90);
        for (int l = 18; l <= 25; l++) {
            StayHouse x = held(CAPTIVE.replace("leaves 99", "leaves " + l).replace("fits 2", "fits 1"), 4, 4);
            Check.due("a quarter of " + l + " between those that fit alike", x.paid(0, 1, 2), l / 2 / 2 >= 5 ? 130 : 90);
        }
    }

    /** With one held the first asks it 10 and new ones 5; far looking ones would go to the other's 5 and 5. */
    private static void lookingByLaw() {
        for (String look : new String[] {"near", "far"}) {
            StayHouse x = held(CAPTIVE.replace("near", look), 1, 0);
            Check.due("as told " + look, x.paid(0, 1, 0), look.equals("near") ? 60 : 55);
            Check.due("far by law", x.paid(0, 1, 4), 55);
            Check.due("near by law", x.paid(0, 1, 5), 60);
            Check.due("told still", x.sort(0, 4), look.equals("near") ? 0 : 1);
        }
    }

    private static void leavingsToNone() {
        for (int worth = 4; worth <= 6; worth++) {
            StayHouse x = held(FREE + "sort s new 0 worth " + worth + " leaves 9 stays 100 near;prices one 5;keep 0", 7, 2);
            for (int n = 1; n <= 3; n++) {
                Check.due("leavings at " + worth + " over " + n, x.leavings(0, n, 0), worth < 5 ? 9 : 0);
                Check.due("paid at " + worth + " over " + n, x.paid(0, n, 0), worth < 5 ? 0 : 45 * n);
            }
        }
    }

    private static void kindestOfLikeOnes() {
        Check.due("all like: as told", held(CAPTIVE.replace("5,10", "5"), 4, 4).kindest(0, 1), 0);
        Check.due("one price is the first of the least", held(CAPTIVE, 4, 4).kindest(0, 1), 1);
        Check.due("no one held: all like", held(CAPTIVE, 0, 0).kindest(0, 1), 0);
        // With one price told the first law is the law as told.
        StayHouse x = held(SINGLE, 11, 1);
        Check.due("one price by law is as told", x.paid(0, 1, 1), x.paid(0, 1, 0));
        Check.due("none of leaving is kinder", x.kindest(0, 1), 3);
        StayHouse big = room("two", 2, 3);
        refused("no room by one of them", big, big.kindest(0, 3), -1, 3);
        Check.due("room by law 1", big.paid(0, 3, 1) != NO, true);
    }

    // ---- promises, shapes, those who come late

    private static void promisedStep() {
        StayHouse x = held(CAPTIVE.replace("5,10", "5,10,20"), 4, 4);
        long[] due = {70, 90, 130};
        for (int step = 0; step < 3; step++) {
            Check.due("promise " + step, x.promise(0, step, 1), due[step]);
            Check.due("not refused", x.trouble(), 0);
        }
        x.rest(1);
        Check.due("the last step is no promise", x.promise(0, 2, 1), x.worth(0));
        for (int step : new int[] {-1, 3, 4, LEAST, MOST}) {
            refused("promise " + step, x, x.promise(0, step, 1), NO, 2);
            refused("none such ahead of it", x, x.promise(2, step, 1), NO, 1);
            refused("none such ahead of it", x, x.promise(-1, step, 9), NO, 1);
        }
        StayHouse big = room("two", 2, 3);
        refused("a step ahead of no room", big, big.promise(0, 3, 3), NO, 2);
        refused("a step ahead of no room", big, big.promise(0, -1, 3), NO, 2);
        refused("no room though promised", big, big.promise(0, 0, 3), NO, 3);
        // Only the old step is promised: the new one may be above it.
        StayHouse dear = held("baker a costs 9 fits 1 enters 0;baker b costs 0 fits 2 enters 0;sort s new 10 worth 50 leaves 99 stays 100 near;"
            + "prices two 5,10;keep 100", 0, 0);
        Check.due("sells to nobody by a new step of 10", dear.promise(0, 0, 1), 0);
    }

    private static void shapeOfWhom() {
        StayHouse x = held(CAPTIVE.replace("leaves 99", "leaves 7"), 4, 4);
        x.rest(1);
        for (int b = 0; b < 2; b++) {
            Check.due("itself: as it is", x.shape(b, b, 1), x.worth(b));
            Check.due("not refused", x.trouble(), 0);
        }
        Check.due("the other", x.shape(0, 1, 1), 70);
        for (int b : new int[] {-2, -1, 2, 3, LEAST, MOST}) {
            refused("shape of " + b, x, x.shape(b, 0, 1), NO, 1);
            refused("shape as " + b, x, x.shape(0, b, 1), NO, 1);
            refused("ahead of a number", x, x.shape(0, b, 4), NO, 1);
            refused("fit of " + b, x, x.fit(b, 1), -1, 1);
            refused("late of " + b, x, x.late(b, 1), -1, 1);
            refused("promise of " + b, x, x.promise(b, 0, 1), NO, 1);
        }
        Check.due("fits as told", 10 * x.baker(0, 1) + x.baker(1, 1), 12);
    }

    private static void fitOfLikeOnes() {
        StayHouse x = held(CAPTIVE, 4, 4);
        Check.due("like for the first: itself", x.fit(0, 1), 0);
        Check.due("like for the second: the first", x.fit(1, 1), 0);
        StayHouse loose = held(CAPTIVE.replace("leaves 99", "leaves 7"), 4, 4);
        Check.due("more for the second as it is", loose.fit(1, 1), 1);
        StayHouse three = Check.open(CAPTIVE.replace("sort s", "baker c costs 0 fits 3 enters 0;sort s"));
        for (int b = 0; b < 3; b++) {
            Check.due("like for all three: the first", three.fit(b, 1), 0);
        }
        Check.due("not refused", three.trouble(), 0);
    }

    private static void enters() {
        for (int enters : new int[] {0, 49, 50, 51, 999}) {
            StayHouse x = held(CAPTIVE.replace("a costs 0 fits 1 enters 0", "a costs 0 fits 1 enters " + enters), 9, 9);
            Check.due("worth 50 and enters " + enters, x.late(0, 1), enters <= 50 ? 1 : 0);
            Check.due("not refused", x.trouble(), 0);
            Check.due("held still", x.held(0, 0), 9);
        }
        // Of zero and below.
        int[][] due = {{5, 0, 1}, {5, 1, 0}, {6, 0, 0}, {4, 1, 1}, {4, 2, 0}};
        for (int[] d : due) {
            StayHouse x = Check.open("baker a costs " + d[0] + " fits 1 enters " + d[1] + ";baker b costs 0 fits 2 enters 0;"
                + "sort s new 1 worth 50 leaves 99 stays 100 near;prices one 5;keep 0");
            Check.due("costs " + d[0] + " enters " + d[1], x.late(0, 2), d[2]);
        }
        // Nobody of any sort is held by it; those of others are.
        String two = CAPTIVE.replace(";prices", ";sort t new 0 worth 50 leaves 99 stays 100 near;prices").replace("enters 0;baker b", "enters 51;baker b");
        StayHouse x = Check.open(two);
        x.hold(0, 0, 9);
        x.hold(0, 1, 9);
        Check.due("no sort of it counts", x.late(0, 1), 0);
        x.rest(1);
        Check.due("held ones would", x.worth(0) >= 51, true);
    }

    // ---- luring

    private static void luresAndWar() {
        StayHouse x = held(CAPTIVE, 4, 0);
        x.rest(1);
        Check.due("new below old", x.lures(0, 0), 1);
        Check.due("new is old", 10 * x.act(1, 0) + x.act(1, 1), 0);
        Check.due("that is no luring", x.lures(1, 0), 0);
        for (int costs = 0; costs <= 99; costs++) {
            x.change(0, costs);
            Check.due("5 of new ones at costs " + costs, x.lures(0, 1), costs > 5 ? 1 : 0);
        }
        // New above old is no luring.
        StayHouse dear = Check.open(CAPTIVE.replace("a costs 0", "a costs 9"));
        dear.rest(1);
        Check.due("old 5, new 10", 10 * dear.act(0, 0) + dear.act(0, 1), 1);
        Check.due("no luring", dear.lures(0, 0), 0);
        Check.due("no war at 10", dear.lures(0, 1), 0);
    }

    /** Asking its own 5 too costs the first 5 by each it holds; it brings 5 by each new one that looks far. */
    private static void edgeFromNoneToAll() {
        int[][] due = {{0, 0}, {1, 10}, {2, 20}, {5, 50}, {9, 90}, {10, 100}, {11, -2}, {12, -2}};
        for (int[] d : due) {
            StayHouse x = held(CAPTIVE, d[0], 0);
            Check.due("edge with " + d[0], x.edge(), d[1]);
            Check.due("not refused", x.trouble(), 0);
            Check.due("looks as told do not matter", held(CAPTIVE.replace("near", "far"), d[0], 0).edge(), d[1]);
        }
        Check.due("one price", held(SINGLE, 11, 0).edge(), 0);
        Check.due("one step", held(CAPTIVE.replace("5,10", "5"), 11, 0).edge(), 0);
        StayHouse none = new StayHouse();
        refused("no town", none, none.edge(), -1, 1);
    }

    /** Of 99 new ones f hundredths downwards: 1 from 2 on, 98 from 99 on, 99 at 100. */
    private static void edgeDownwards() {
        int[][] due = {{0, 0}, {1, 2}, {2, 3}, {97, 98}, {98, 99}, {99, 100}, {100, -2}};
        for (int[] d : due) {
            Check.due("99 new ones, " + d[0] + " held", held(CAPTIVE.replace("new 10", "new 99"), d[0], 0).edge(), d[1]);
        }
        int[][] three = {{1, 34}, {2, 67}, {3, 100}, {4, -2}};
        for (int[] d : three) {
            Check.due("3 new ones, " + d[0] + " held", held(CAPTIVE.replace("new 10", "new 3"), d[0], 0).edge(), d[1]);
        }
        Check.due("1 new one", held(CAPTIVE.replace("new 10", "new 1"), 1, 0).edge(), 100);
        Check.due("no new one", held(CAPTIVE.replace("new 10", "new 0"), 1, 0).edge(), -2);
        // Each sort by itself: 34 hundredths of 3 and of 2 are 1 and 0, together they would be 1 as well; 50 make 1 and 1.
        StayHouse two = Check.open(CAPTIVE.replace("new 10", "new 3").replace(";prices", ";sort t new 2 worth 50 leaves 99 stays 100 near;prices"));
        two.hold(0, 0, 2);
        Check.due("two sorts", two.edge(), 50);
    }
}
