/** Readings that come near the document's own, each told from it by a small town that was worked out by hand. */
public final class ReadingsTest {
    private static final String FREE = "baker a costs 0 fits 1 enters 0;baker b costs 0 fits 2 enters 40;";
    /** Buyers that never leave; a new one goes where it is cheaper, to the first if like. */
    private static final String SINGLE = FREE + "sort s new 10 worth 50 leaves 99 stays 100 near;prices one 5,10;keep 100";
    private static final String CAPTIVE = SINGLE.replace("one", "two");

    public static void main(String[] args) {
        greatestGainNotAllGains();
        restFromWhoIsHeldNow();
        gainFromWhoIsHeldNow();
        lawsFromWhoIsHeldNow();
        lateFromWhoIsHeldNow();
        edgeFromWhoIsHeldNow();
        unsureOnesLureToo();
        edgeOfHeldOnesThatLookNear();
        edgeByUnsureActs();
        edgeByAnyBaker();
        Check.end();
    }

    private static StayHouse held(String text, int first, int second) {
        StayHouse x = Check.open(text);
        x.hold(0, 0, first);
        x.hold(1, 0, second);
        return x;
    }

    private static void acts(String what, StayHouse x, int first, int second) {
        Check.due(what + ": first's act", 10 * x.act(0, 0) + x.act(0, 1), first);
        Check.due(what + ": second's act", 10 * x.act(1, 0) + x.act(1, 1), second);
    }

    /**
     * The first earns 4, 7 or 8 by each, of 5 and, if it is not dearer, of 5 more; the second 6, 9 or 10, of 10 and, if it is
     * cheaper, of 5 more. Nothing is at rest. At 10, 7 they gain 5 and 10, at 10, 10 nothing and 10, at 10, 11 10 and nothing:
     * the greatest gain is 10 at each, and 10, 7 is the first of them; all gains together would be least at 10, 10.
     */
    private static void greatestGainNotAllGains() {
        StayHouse x = held("baker a costs 3 fits 0 enters 0;baker b costs 1 fits 1 enters 0;"
            + "sort s new 5 worth 18 leaves 8 stays 100 near;prices one 7,10,11;keep 50", 5, 10);
        Check.due("unsure", x.rest(1), 1);
        acts("greatest gain", x, 11, 0);
        Check.due("first's worth", x.worth(0), 35);
        Check.due("second's worth", x.worth(1), 90);
    }

    /** Years at 5 and 5 bring the first ten each. With twenty it had rather ask 10 of them than 5 of thirty. */
    private static void restFromWhoIsHeldNow() {
        StayHouse x = Check.open(SINGLE);
        int[][] due = {{0, 50, 0}, {0, 100, 0}, {11, 200, 50}, {11, 300, 50}};
        for (int y = 0; y < due.length; y++) {
            Check.due("held", x.held(0, 0), 10 * y);
            Check.due("rest behind " + y, x.rest(1), 0);
            acts("behind " + y, x, due[y][0], 0);
            Check.due("first's worth behind " + y, x.worth(0), due[y][1]);
            Check.due("second's worth behind " + y, x.worth(1), due[y][2]);
            x.go(1);
        }
        x.again(0);
        x.rest(1);
        acts("again", x, 0, 0);
        Check.due("first's worth again", x.worth(0), 50);
    }

    private static void gainFromWhoIsHeldNow() {
        StayHouse x = Check.open(SINGLE);
        int[][] due = {{0, 0}, {0, 0}, {50, 11}, {100, 11}};
        for (int y = 0; y < due.length; y++) {
            Check.due("gain behind " + y, x.gain(0), due[y][0]);
            Check.due("best behind " + y, x.best(0), due[y][1]);
            x.go(1);
        }
        x.again(1);
        Check.due("gain again", x.gain(0), 0);
        Check.due("best again", x.best(0), 0);
    }

    /** With none that costs a morning the twenty would leave for the second's 5, and the first asks 5. */
    private static void lawsFromWhoIsHeldNow() {
        StayHouse x = Check.open(SINGLE);
        long[][] due = {{50, 50, 0, 50, 50}, {100, 100, 0, 100, 100}, {250, 150, 3, 150, 200}};
        for (int y = 0; y < due.length; y++) {
            Check.due("paid behind " + y, x.paid(0, 1, 0), due[y][0]);
            Check.due("paid without leaving behind " + y, x.paid(0, 1, 3), due[y][1]);
            Check.due("kindest behind " + y, x.kindest(0, 1), due[y][2]);
            Check.due("promise behind " + y, x.promise(0, 0, 1), due[y][3]);
            Check.due("shape behind " + y, x.shape(0, 1, 1), due[y][4]);
            x.go(1);
        }
    }

    /** The second lets the first have its ten, then twenty; from then on the new ones are its own. */
    private static void lateFromWhoIsHeldNow() {
        StayHouse x = Check.open(SINGLE);
        for (int y = 0; y < 4; y++) {
            Check.due("late behind " + y, x.late(1, 1), y < 2 ? 0 : 1);
            x.go(1);
        }
    }

    private static void edgeFromWhoIsHeldNow() {
        StayHouse x = Check.open(CAPTIVE.replace("stays 100", "stays 50"));
        // Held: none, then 5 of 10, 7 of 15, 8 of 17.
        int[] due = {0, 50, 70, 80};
        for (int y = 0; y < due.length; y++) {
            Check.due("edge behind " + y, x.edge(), due[y]);
            x.go(1);
        }
    }

    /**
     * Far looking: new ones go by both prices together; who is held at 7 goes to none while somebody asks 1 of new ones, to be
     * new itself. Nothing is at rest. At (1, 7), (7, 1) the first gains nothing and the second 2, by asking new ones 7.
     */
    private static void unsureOnesLureToo() {
        StayHouse x = held("baker a costs 3 fits 0 enters 0;baker b costs 5 fits 1 enters 0;"
            + "sort s new 5 worth 8 leaves 99 stays 100 far;prices two 1,7;keep 100", 2, 1);
        Check.due("unsure", x.rest(1), 1);
        acts("unsure", x, 1, 10);
        Check.due("first's worth", x.worth(0), 16);
        Check.due("second's worth", x.worth(1), 0);
        Check.due("first lures", x.lures(0, 0), 0);
        Check.due("second lures", x.lures(1, 0), 1);
        Check.due("first's war", x.lures(0, 1), 0);
        Check.due("second's war", x.lures(1, 1), 1);
    }

    /**
     * No new ones: how many of them look far is all one. Those held by the first, near looking though the sort is told as far,
     * stay for 9 if leaving for 6 costs 3 or more: then it asks 9, and of nobody the first step. Far looking they would go.
     */
    private static void edgeOfHeldOnesThatLookNear() {
        String text = "baker a costs 0 fits 1 enters 0;baker b costs 0 fits FITS enters 0;"
            + "sort s new 0 worth 14 leaves LEAVES stays 100 far;prices two 6,9;keep 100";
        for (int leaves = 0; leaves <= 9; leaves++) {
            String now = text.replace("LEAVES", "" + leaves);
            Check.due("edge, other fit, leaves " + leaves, held(now.replace("FITS", "2"), 5, 0).edge(), leaves < 3 ? 0 : -2);
            Check.due("edge, like fit, leaves " + leaves, held(now.replace("FITS", "1"), 5, 0).edge(), leaves < 6 ? 0 : -2);
            Check.due("nobody held", held(now.replace("FITS", "1"), 0, 0).edge(), 0);
        }
    }

    /**
     * Each earns 5 or 7 by each, the first of two, the second of one, and of two new ones. Near looking: both lure. One far
     * looking: nothing is at rest, and at (8, 6), (6, 6) the greatest gain is 1: the first lures. Both far looking: nothing is
     * at rest, and at (6, 6), (6, 6) it is 2: nobody does.
     */
    private static void edgeByUnsureActs() {
        String text = "baker a costs 1 fits 0 enters 0;baker b costs 1 fits 1 enters 0;"
            + "sort s new 2 worth 10 leaves 99 stays 100 LOOK;prices two 6,8;keep 100";
        Check.due("edge", held(text.replace("LOOK", "near"), 2, 1).edge(), 100);
        StayHouse near = held(text.replace("LOOK", "near"), 2, 1);
        Check.due("near is sure", near.rest(1), 0);
        acts("near", near, 10, 10);
        // Who is held never leaves, so that far looking ones of that sort show what comes with both far looking.
        StayHouse far = held(text.replace("LOOK", "far"), 2, 1);
        Check.due("far is unsure", far.rest(1), 1);
        acts("far", far, 0, 0);
    }

    /**
     * The first has all new ones and nobody held: it asks 5 and 5. The second asks its own 10 and of nobody the first step. If new
     * ones look far, the first gains 10 by each of them less 50 by asking new ones 10; once that is no less than what the second
     * would gain from 5 and 5 on, 5 by each held, these are the acts.
     */
    private static void edgeByAnyBaker() {
        int[] due = {0, 60, 60, 70};
        for (int n = 0; n < due.length; n++) {
            StayHouse x = held(CAPTIVE, 0, n);
            Check.due("edge with " + n + " held by the second", x.edge(), due[n]);
            x.rest(1);
            acts("with " + n, x, 0, n == 0 ? 0 : 10);
            StayHouse none = held(CAPTIVE.replace("new 10", "new 0"), 0, n);
            Check.due("edge without new ones, " + n + " held by the second", none.edge(), n == 0 ? 0 : -2);
        }
    }
}
