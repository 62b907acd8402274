/** Promises 20 to 26: laws, promises, whose loaves fit whose toaster, those who come late. */
public final class LawsTest {
    private static final String FREE = "baker a costs 0 fits 1 enters 0;baker b costs 0 fits 2 enters 0;";
    private static final String CAPTIVE = FREE + "sort s new 10 worth 50 leaves 99 stays 100 near;prices two 5,10;keep 100";
    /** 10 of the own one against 5 of another: 7 keeps them, 3 does not. */
    private static final String LOOSE = CAPTIVE.replace("leaves 99", "leaves 7");
    private static final String BIG = "baker a costs 0 fits 1 enters 0;baker b costs 0 fits 2 enters 0;"
        + "sort s new 1 worth 50 leaves 9 stays 100 near;prices two 5,6,7;keep 50";

    public static void main(String[] args) {
        refusals();
        room();
        laws();
        leavingHalfAheadOfFitting();
        looks();
        overYears();
        leavings();
        kindest();
        promises();
        promisesWithOnePrice();
        shapes();
        betterFit();
        late();
        nothingChanges();
        Check.end();
    }

    private static StayHouse both(String text, int n) {
        StayHouse x = Check.open(text);
        x.hold(0, 0, n);
        x.hold(1, 0, n);
        return x;
    }

    private static void refusals() {
        StayHouse x = new StayHouse();
        long no = Long.MIN_VALUE;
        Check.due("paid", x.paid(0, 9, 0), no);
        Check.due("by 1", x.trouble(), 1);
        Check.due("leavings", x.leavings(0, 1, 0), no);
        Check.due("kindest", x.kindest(0, 1), -1);
        Check.due("promise", x.promise(0, 0, 1), no);
        Check.due("shape", x.shape(0, 0, 1), no);
        Check.due("fit", x.fit(0, 1), -1);
        Check.due("late", x.late(0, 1), -1);
        Check.due("by 1", x.trouble(), 1);
        x = Check.open(CAPTIVE);
        int[][] wrongSortOrLaw = {{1, 0}, {-1, 0}, {0, 6}, {0, -1}};
        for (int[] w : wrongSortOrLaw) {
            Check.due("paid", x.paid(w[0], 9, w[1]), no);
            Check.due("by 1 ahead of 2", x.trouble(), 1);
            Check.due("leavings", x.leavings(w[0], 9, w[1]), no);
            Check.due("by 1 ahead of 2", x.trouble(), 1);
        }
        Check.due("kindest", x.kindest(1, 0), -1);
        Check.due("by 1 ahead of 2", x.trouble(), 1);
        for (int n : new int[] {0, 4, -5}) {
            refusedByTwo(x, n);
        }
        for (int b : new int[] {-1, 2}) {
            Check.due("promise", x.promise(b, 9, 9), no);
            Check.due("by 1 ahead of 2", x.trouble(), 1);
            Check.due("shape", x.shape(b, 0, 9), no);
            Check.due("by 1", x.trouble(), 1);
            Check.due("shape of other", x.shape(0, b, 9), no);
            Check.due("by 1", x.trouble(), 1);
            Check.due("fit", x.fit(b, 9), -1);
            Check.due("by 1", x.trouble(), 1);
            Check.due("late", x.late(b, 9), -1);
            Check.due("by 1", x.trouble(), 1);
            Check.due("promise of no step", x.promise(0, b, 1), no);
            Check.due("by 2", x.trouble(), 2);
        }
    }

    private static void refusedByTwo(StayHouse x, int n) {
        long no = Long.MIN_VALUE;
        Check.due("paid", x.paid(0, n, 0), no);
        Check.due("by 2", x.trouble(), 2);
        Check.due("leavings", x.leavings(0, n, 5), no);
        Check.due("by 2", x.trouble(), 2);
        Check.due("kindest", x.kindest(0, n), -1);
        Check.due("by 2", x.trouble(), 2);
        Check.due("promise", x.promise(0, 0, n), no);
        Check.due("by 2", x.trouble(), 2);
        Check.due("shape", x.shape(0, 1, n), no);
        Check.due("by 2", x.trouble(), 2);
        Check.due("fit", x.fit(0, n), -1);
        Check.due("by 2", x.trouble(), 2);
        Check.due("late", x.late(0, n), -1);
        Check.due("by 2", x.trouble(), 2);
    }

    private static void room() {
        StayHouse x = Check.open(BIG);
        long no = Long.MIN_VALUE;
        for (int law = 0; law <= 5; law++) {
            Check.due("paid over two by " + law, x.paid(0, 2, law) >= 0, true);
            Check.due("paid over three by " + law, x.paid(0, 3, law) >= 0, law == 1);
            Check.due("trouble", x.trouble(), law == 1 ? 0 : 3);
            Check.due("leavings over three by " + law, x.leavings(0, 3, law) >= 0, law == 1);
            Check.due("trouble", x.trouble(), law == 1 ? 0 : 3);
        }
        Check.due("kindest", x.kindest(0, 3), -1);
        Check.due("by 3", x.trouble(), 3);
        Check.due("a promise leaves no more room", x.promise(0, 0, 3), no);
        Check.due("by 3", x.trouble(), 3);
        Check.due("no such step ahead of no room", x.promise(0, 3, 3), no);
        Check.due("by 2", x.trouble(), 2);
        Check.due("shape", x.shape(0, 1, 3), no);
        Check.due("by 3", x.trouble(), 3);
        Check.due("fit", x.fit(0, 3), -1);
        Check.due("by 3", x.trouble(), 3);
        Check.due("late", x.late(0, 3), -1);
        Check.due("by 3", x.trouble(), 3);
        Check.due("late over two", x.late(0, 2), 1);
        Check.due("trouble", x.trouble(), 0);
    }

    /** With two prices the held ones pay 10, the new ones 5; with one price, unsure, or free to leave all pay 5. */
    private static void laws() {
        StayHouse x = both(CAPTIVE, 4);
        Check.due("as told", x.paid(0, 1, 0), 130);
        Check.due("trouble", x.trouble(), 0);
        Check.due("one price", x.paid(0, 1, 1), 90);
        Check.due("leaving half", x.paid(0, 1, 2), 130);
        Check.due("no leaving", x.paid(0, 1, 3), 90);
        Check.due("near", x.paid(0, 1, 5), 130);
        StayHouse loose = both(LOOSE, 4);
        Check.due("7 keeps", loose.paid(0, 1, 0), 130);
        Check.due("3 does not", loose.paid(0, 1, 2), 90);
    }

    private static void leavingHalfAheadOfFitting() {
        // 22: half of it, 11, as they fit alike. By law 11, half of it, 5, no less than what they would save: they stay.
        StayHouse stay = both(CAPTIVE.replace("leaves 99", "leaves 22").replace("fits 2", "fits 1"), 4);
        Check.due("as told", stay.paid(0, 1, 0), 130);
        Check.due("half of it, then half", stay.paid(0, 1, 2), 130);
        // 19: by law 9, half of it 4, less than what they would save.
        StayHouse go = both(CAPTIVE.replace("leaves 99", "leaves 19").replace("fits 2", "fits 1"), 4);
        Check.due("as told", go.paid(0, 1, 0), 130);
        Check.due("half of it, then half", go.paid(0, 1, 2), 90);
    }

    /** New ones that look far go where both prices together are least. */
    private static void looks() {
        StayHouse x = Check.open(CAPTIVE);
        x.hold(0, 0, 1);
        // Near: 10 of the one held and 5 of the new ones. Far: 5 of all, as 15 together would lose them to the other's 10.
        Check.due("near as told", x.paid(0, 1, 0), 60);
        Check.due("far by law", x.paid(0, 1, 4), 55);
        StayHouse far = Check.open(CAPTIVE.replace("near", "far"));
        far.hold(0, 0, 1);
        Check.due("far as told", far.paid(0, 1, 0), 55);
        Check.due("near by law", far.paid(0, 1, 5), 60);
        Check.due("far by law", far.paid(0, 1, 4), 55);
    }

    private static void overYears() {
        StayHouse x = Check.open(CAPTIVE);
        Check.due("one year", x.paid(0, 1, 0), 50);
        Check.due("two years", x.paid(0, 2, 0), 50 + 150);
        Check.due("three years", x.paid(0, 3, 0), 50 + 150 + 250);
        StayHouse half = Check.open(CAPTIVE.replace("keep 100", "keep 10"));
        Check.due("what is paid is not kept by hundredths", half.paid(0, 2, 0), 200);
        StayHouse two = Check.open(CAPTIVE.replace(";prices", ";sort t new 3 worth 50 leaves 99 stays 0 near;prices"));
        Check.due("each sort by itself", two.paid(1, 1, 0), 15);
        Check.due("the other", two.paid(0, 1, 0), 50);
    }

    private static void leavings() {
        StayHouse x = Check.open(FREE + "sort s new 0 worth 5 leaves 0 stays 100 near;prices one 6;keep 0");
        x.hold(0, 0, 10);
        x.hold(1, 0, 3);
        Check.due("to none", x.leavings(0, 1, 0), 13);
        Check.due("once", x.leavings(0, 3, 0), 13);
        Check.due("they pay nothing", x.paid(0, 3, 0), 0);
        // The first loses by each loaf at 5, so that it asks 10 and those who may go.
        StayHouse go = Check.open(LOOSE.replace("a costs 0", "a costs 6"));
        go.hold(0, 0, 20);
        Check.due("7 keeps them", go.leavings(0, 1, 0), 0);
        Check.due("3 does not", go.leavings(0, 1, 2), 20);
        Check.due("trouble", go.trouble(), 0);
        Check.due("they pay 5, as new ones do", go.paid(0, 1, 2), 150);
    }

    private static void kindest() {
        StayHouse x = both(CAPTIVE, 4);
        Check.due("one price, the first of like ones", x.kindest(0, 1), 1);
        Check.due("trouble", x.trouble(), 0);
        StayHouse loose = both(LOOSE, 4);
        loose.hold(0, 0, 11);
        loose.hold(1, 0, 0);
        long[] paid = new long[6];
        int least = 0;
        for (int law = 0; law <= 5; law++) {
            paid[law] = loose.paid(0, 1, law);
            least = paid[law] < paid[least] ? law : least;
        }
        Check.due("the least of six", loose.kindest(0, 1), least);
        Check.due("leaving half is kinder than one price then", least, 2);
        Check.due("all alike: as told", Check.open(CAPTIVE.replace("5,10", "5")).kindest(0, 2), 0);
        StayHouse more = both(CAPTIVE, 11);
        Check.due("kindest over two", more.kindest(0, 2), leastOf(more, 2));
        StayHouse far = Check.open("baker a costs 6 fits 1 enters 0;baker b costs 6 fits 2 enters 0;"
            + "sort s new 10 worth 20 leaves 8 stays 100 near;prices two 5,10;keep 100");
        far.hold(0, 0, 8);
        far.hold(1, 0, 12);
        Check.due("300 by all but far looking, 260", far.paid(0, 1, 4), 260);
        Check.due("far looking is kindest", far.kindest(0, 1), 4);
        StayHouse near = Check.open("baker a costs 2 fits 1 enters 0;baker b costs 6 fits 2 enters 0;"
            + "sort s new 10 worth 20 leaves 9 stays 100 far;prices two 5,10;keep 100");
        near.hold(1, 0, 8);
        Check.due("180 by all but near looking, 130", near.paid(0, 1, 5), 130);
        Check.due("near looking is kindest", near.kindest(0, 1), 5);
    }

    private static int leastOf(StayHouse x, int n) {
        int least = 0;
        for (int law = 1; law <= 5; law++) {
            least = x.paid(0, n, law) < x.paid(0, n, least) ? law : least;
        }
        return least;
    }

    private static void promises() {
        StayHouse x = both(CAPTIVE, 4);
        Check.due("no more than 5 of its own", x.promise(0, 0, 1), 70);
        Check.due("no promise", x.promise(0, 1, 1), 90);
        Check.due("the second's", x.promise(1, 0, 1), 20);
        Check.due("trouble", x.trouble(), 0);
        Check.due("in each year", x.promise(0, 0, 2), 70 + 14 * 5 + 50);
        Check.due("no rest by it", x.act(0, 0), -1);
        StayHouse steps = both(CAPTIVE.replace("5,10", "5,10,20"), 4);
        Check.due("up to 10", steps.promise(0, 1, 1), 4 * 10 + 50);
        Check.due("up to 20", steps.promise(0, 2, 1), 4 * 20 + 50);
    }

    private static void promisesWithOnePrice() {
        StayHouse x = Check.open(CAPTIVE.replace("two", "one"));
        x.hold(0, 0, 11);
        x.hold(1, 0, 1);
        Check.due("as it is: 10 of eleven", x.promise(0, 1, 1), 110);
        Check.due("5 of all", x.promise(0, 0, 1), 105);
        Check.due("the second promises what it asks", x.promise(1, 0, 1), 55);
    }

    private static void shapes() {
        StayHouse x = both(LOOSE, 4);
        Check.due("as it is", x.shape(0, 0, 1), 90);
        Check.due("fits the other's", x.shape(0, 1, 1), 70);
        Check.due("the second as it is", x.shape(1, 1, 1), 40);
        Check.due("the second fits the first's", x.shape(1, 0, 1), 20);
        Check.due("trouble", x.trouble(), 0);
        Check.due("had best fit itself", x.fit(0, 1), 0);
        Check.due("the second too", x.fit(1, 1), 1);
        Check.due("like ones: the first", both(CAPTIVE, 4).fit(1, 1), 0);
        Check.due("fits stay", x.baker(0, 1), 1);
    }

    /** The first can't sell at 5: who fits its toaster takes those it holds. */
    private static void betterFit() {
        StayHouse x = Check.open(LOOSE.replace("a costs 0", "a costs 6"));
        x.hold(0, 0, 20);
        Check.due("new ones alone", x.shape(1, 1, 1), 50);
        Check.due("held ones too", x.shape(1, 0, 1), 150);
        Check.due("had best fit the first's", x.fit(1, 1), 0);
        StayHouse three = Check.open(LOOSE.replace("a costs 0", "a costs 6")
            .replace("sort s", "baker c costs 9 fits 1 enters 0;sort s"));
        three.hold(0, 0, 20);
        Check.due("the first of those that fit alike", three.fit(1, 1), three.shape(1, 0, 1) > three.shape(1, 1, 1) ? 0 : 1);
        Check.due("itself among three", three.shape(1, 2, 1), three.shape(1, 0, 1));
        fitAmongThree();
    }

    private static void fitAmongThree() {
        StayHouse x = Check.open("baker a costs 2 fits 1 enters 0;baker b costs 4 fits 2 enters 0;baker c costs 6 fits 3 enters 0;"
            + "sort s new 10 worth 20 leaves 7 stays 100 near;prices two 5,10;keep 50");
        int[] held = {4, 12, 8};
        long[] due = {12, 72, 20};
        for (int b = 0; b < 3; b++) {
            x.hold(b, 0, held[b]);
        }
        for (int other = 0; other < 3; other++) {
            Check.due("the second fits " + other, x.shape(1, other, 1), due[other]);
        }
        Check.due("itself is best", x.fit(1, 1), 1);
    }

    private static void late() {
        String text = LOOSE.replace("a costs 0", "a costs 6");
        for (int enters : new int[] {0, 49, 50, 51, 999}) {
            StayHouse x = Check.open(text.replace("b costs 0 fits 2 enters 0", "b costs 0 fits 2 enters " + enters));
            x.hold(0, 0, 20);
            Check.due("with nobody, enters " + enters, x.late(1, 1), enters <= 50 ? 1 : 0);
            Check.due("trouble", x.trouble(), 0);
            x.hold(1, 0, 30);
            Check.due("those it holds do not count, enters " + enters, x.late(1, 1), enters <= 50 ? 1 : 0);
            Check.due("but they are still there", x.held(1, 0), 30);
        }
        StayHouse lost = Check.open(FREE.replace("a costs 0", "a costs 9")
            + "sort s new 1 worth 50 leaves 9 stays 100 near;prices one 5;keep 30");
        Check.due("below zero it does not", lost.late(0, 1), 0);
        Check.due("nor over three years", lost.late(0, 3), 0);
        Check.due("zero is no less than zero", lost.late(1, 3), 1);
    }

    /** What is asked for by law, promise or shape is not so from then on. */
    private static void nothingChanges() {
        StayHouse x = both(LOOSE, 4);
        x.rest(1);
        long worth = x.worth(0);
        for (int law = 0; law <= 5; law++) {
            x.paid(0, 2, law);
            x.leavings(0, 2, law);
        }
        x.kindest(0, 1);
        x.promise(0, 0, 1);
        x.shape(0, 1, 1);
        x.fit(1, 2);
        x.late(0, 1);
        x.edge();
        Check.due("old step", x.act(0, 0), 1);
        Check.due("worth", x.worth(0), worth);
        Check.due("held", x.held(0, 0), 4);
        Check.due("leaves", x.sort(0, 2), 7);
        Check.due("looks", x.sort(0, 4), 0);
        Check.due("two prices", x.size(3), 1);
        Check.due("years", x.size(5), 0);
        x.rest(1);
        Check.due("worth anew", x.worth(0), worth);
        Check.due("chooses as before", x.choose(0, 0), 0);
    }
}
