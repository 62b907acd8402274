/** Promises 15 to 19, 27 and 28: what each asks at rest, gains in a year alone, luring and its edge. */
public final class RestTest {
    private static final String FREE = "baker a costs 0 fits 1 enters 0;baker b costs 0 fits 2 enters 0;";
    /** Buyers that never leave; a new one goes where it is cheaper, to the first if like. */
    private static final String CAPTIVE = FREE + "sort s new 10 worth 50 leaves 99 stays 100 near;prices HOW 5,10;keep 100";

    public static void main(String[] args) {
        refusals();
        room();
        luring();
        firstOfLikeOnes();
        unsure();
        unsureOnlyLater();
        belowZero();
        ahead();
        keptUntilTheNext();
        war();
        gains();
        gainsWithOnePrice();
        bestOfMany();
        edges();
        Check.end();
    }

    private static void refusals() {
        StayHouse x = new StayHouse();
        Check.due("rest without town", x.rest(9), -1);
        Check.due("by 1", x.trouble(), 1);
        Check.due("edge without town", x.edge(), -1);
        Check.due("by 1", x.trouble(), 1);
        Check.due("act", x.act(0, 0), -1);
        Check.due("by 1", x.trouble(), 1);
        Check.due("worth", x.worth(0), Long.MIN_VALUE);
        Check.due("gain", x.gain(0), Long.MIN_VALUE);
        Check.due("best", x.best(0), -1);
        Check.due("lures", x.lures(0, 0), -1);
        Check.due("by 1", x.trouble(), 1);
        x = Check.open(CAPTIVE.replace("HOW", "two"));
        for (int n : new int[] {0, 4, -1}) {
            Check.due("rest " + n, x.rest(n), -1);
            Check.due("by 2", x.trouble(), 2);
        }
        Check.due("act", x.act(1, 1), -1);
        Check.due("by 6", x.trouble(), 6);
        Check.due("worth", x.worth(1), Long.MIN_VALUE);
        Check.due("by 6", x.trouble(), 6);
        Check.due("lures", x.lures(1, 1), -1);
        Check.due("by 6", x.trouble(), 6);
        Check.due("act of none", x.act(2, 0), -1);
        Check.due("by 1 ahead of 6", x.trouble(), 1);
        Check.due("worth of none", x.worth(2), Long.MIN_VALUE);
        Check.due("by 1 ahead of 6", x.trouble(), 1);
        Check.due("lures of none", x.lures(-1, 0), -1);
        Check.due("by 1 ahead of 6", x.trouble(), 1);
        x.rest(1);
        int[][] wrong = {{0, 2}, {0, -1}, {2, 0}, {-1, 0}};
        for (int[] w : wrong) {
            Check.due("act", x.act(w[0], w[1]), -1);
            Check.due("by 1", x.trouble(), 1);
            Check.due("lures", x.lures(w[0], w[1]), -1);
            Check.due("by 1", x.trouble(), 1);
        }
        Check.due("worth of none", x.worth(-1), Long.MIN_VALUE);
        Check.due("gain of none", x.gain(2), Long.MIN_VALUE);
        Check.due("by 1", x.trouble(), 1);
        Check.due("best of none", x.best(-1), -1);
        Check.due("by 1", x.trouble(), 1);
    }

    private static void room(String how, int bakers, int steps, int years) {
        StringBuilder text = new StringBuilder(FREE);
        if (bakers == 3) {
            text.append("baker c costs 0 fits 3 enters 0;");
        }
        text.append("sort s new 1 worth 50 leaves 9 stays 100 near;prices ").append(how).append(" 5");
        for (int i = 1; i < steps; i++) {
            text.append(",").append(5 + i);
        }
        StayHouse x = Check.open(text.append(";keep 50").toString());
        for (int n = 1; n <= 3; n++) {
            Check.due("rest of " + how + " " + bakers + " " + steps + " over " + n, x.rest(n) >= 0, n <= years);
            Check.due("trouble", x.trouble(), n <= years ? 0 : 3);
        }
    }

    private static void room() {
        room("one", 2, 3, 3);
        room("one", 3, 3, 3);
        room("two", 2, 1, 3);
        room("two", 3, 1, 3);
        room("two", 2, 2, 3);
        room("two", 3, 2, 2);
        room("two", 2, 3, 2);
        room("two", 3, 3, 1);
    }

    /** Both ask 10 of their own; of new ones both ask 5, as the other would have them else. */
    private static void luring() {
        StayHouse x = Check.open(CAPTIVE.replace("HOW", "two"));
        x.hold(0, 0, 4);
        x.hold(1, 0, 4);
        Check.due("rest", x.rest(1), 0);
        Check.due("trouble", x.trouble(), 0);
        for (int b = 0; b < 2; b++) {
            Check.due("old", x.act(b, 0), 1);
            Check.due("new", x.act(b, 1), 0);
            Check.due("lures", x.lures(b, 0), 1);
            Check.due("no war", x.lures(b, 1), 0);
        }
        Check.due("worth", x.worth(0), 90);
        Check.due("worth", x.worth(1), 40);
        Check.due("what is asked stays", x.baker(0, 3), 0);
        Check.due("no year", x.size(5), 0);
    }

    /** Nobody comes: all acts are at rest, the first are taken. */
    private static void firstOfLikeOnes() {
        StayHouse x = Check.open(CAPTIVE.replace("HOW", "two").replace("new 10", "new 0"));
        Check.due("rest", x.rest(3), 0);
        for (int b = 0; b < 2; b++) {
            Check.due("old", x.act(b, 0), 0);
            Check.due("new", x.act(b, 1), 0);
            Check.due("worth", x.worth(b), 0);
        }
        // Only the second has somebody: of acts that earn it the same the least new step.
        x.hold(1, 0, 1);
        Check.due("rest", x.rest(1), 0);
        Check.due("first's old", x.act(0, 0), 0);
        Check.due("second's old", x.act(1, 0), 1);
        Check.due("second's new", x.act(1, 1), 0);
    }

    /** The first would ask what the second asks, the second what the first does not. */
    private static void unsure() {
        StayHouse x = Check.open(CAPTIVE.replace("HOW", "one"));
        x.hold(0, 0, 9);
        x.hold(1, 0, 1);
        Check.due("rest", x.rest(1), 1);
        Check.due("first", x.act(0, 0), 0);
        Check.due("second", x.act(1, 0), 0);
        Check.due("new is old", x.act(1, 1), 0);
        Check.due("worth", x.worth(0), 95);
        Check.due("worth", x.worth(1), 5);
        StayHouse small = Check.open(CAPTIVE.replace("HOW", "one").replace("5,10", "1,2"));
        small.hold(0, 0, 9);
        small.hold(1, 0, 1);
        Check.due("by 1 alone", small.rest(1), 1);
        Check.due("worth", small.worth(0), 19);
        x.hold(0, 0, 11);
        Check.due("sure", x.rest(1), 0);
        Check.due("first", x.act(0, 0), 1);
        Check.due("new is old", x.act(0, 1), 1);
        Check.due("second", x.act(1, 0), 0);
    }

    /** Sure now, but not in what would be held after some of the acts. */
    private static void unsureOnlyLater() {
        StayHouse x = Check.open(FREE + "sort s new 10 worth 50 leaves 99 stays 83 near;prices one 5,10;keep 0");
        x.hold(0, 0, 11);
        x.hold(1, 0, 1);
        Check.due("one year", x.rest(1), 0);
        Check.due("two years", x.rest(2), unsureAfterSomeActs());
    }

    /** By hand: after each of the four acts of all, is the next year unsure? */
    private static int unsureAfterSomeActs() {
        int[][] next = {{21 * 83 / 100, 1 * 83 / 100}, {11 * 83 / 100, 11 * 83 / 100}};
        int unsure = 0;
        for (int[] held : next) {
            StayHouse y = Check.open(FREE + "sort s new 10 worth 50 leaves 99 stays 83 near;prices one 5,10;keep 0");
            y.hold(0, 0, held[0]);
            y.hold(1, 0, held[1]);
            unsure = Math.max(unsure, y.rest(1));
        }
        Check.due("one of them is", unsure, 1);
        return unsure;
    }

    /** One step alone, a loaf dearer than it: 3 lost for each. */
    private static void belowZero() {
        StayHouse x = Check.open("baker a costs 8 fits 1 enters 0;baker b costs 0 fits 2 enters 0;"
            + "sort s new 1 worth 50 leaves 9 stays 100 near;prices one 5;keep 30");
        long[] due = {0, -3, -5, -6};
        for (int n = 1; n <= 3; n++) {
            Check.due("rest", x.rest(n), 0);
            Check.due("worth over " + n, x.worth(0), due[n]);
            Check.due("war", x.lures(0, 1), 1);
            Check.due("no war", x.lures(1, 1), 0);
            Check.due("no luring", x.lures(0, 0), 0);
        }
    }

    /** With a year behind it whom one has then is worth a low price now. */
    private static void ahead() {
        StayHouse x = Check.open(CAPTIVE.replace("HOW", "two"));
        Check.due("rest over one", x.rest(1), 0);
        Check.due("worth", x.worth(0), 50);
        Check.due("rest over two", x.rest(2), 0);
        // Then ten held pay 10 and ten new ones 5: 150, and 50 now.
        Check.due("worth of the first", x.worth(0), 200);
        Check.due("worth of the second", x.worth(1), 0);
        StayHouse half = Check.open(CAPTIVE.replace("HOW", "two").replace("keep 100", "keep 33"));
        half.rest(2);
        Check.due("worth by a third", half.worth(0), 50 + 49);
    }

    private static void keptUntilTheNext() {
        StayHouse x = Check.open(CAPTIVE.replace("HOW", "two"));
        x.hold(0, 0, 4);
        x.rest(1);
        Check.due("worth", x.worth(0), 90);
        x.rest(4);
        x.hold(0, 0, 9);
        x.go(2);
        x.again(0);
        x.change(0, 5);
        x.promise(0, 0, 1);
        x.paid(0, 2, 3);
        x.edge();
        Check.due("worth still", x.worth(0), 90);
        Check.due("old still", x.act(0, 0), 1);
        x.rest(1);
        Check.due("worth anew", x.worth(0), 9 * 5);
        Check.town(x, CAPTIVE.replace("HOW", "two"));
        Check.due("gone with the town", x.worth(0), Long.MIN_VALUE);
        Check.due("by 6", x.trouble(), 6);
    }

    private static void war() {
        StayHouse x = Check.open(CAPTIVE.replace("HOW", "two"));
        x.hold(0, 0, 4);
        x.hold(1, 0, 4);
        x.rest(1);
        x.change(0, 5);
        Check.due("5 is not below 5", x.lures(0, 1), 0);
        x.change(0, 6);
        Check.due("5 is below 6, what a loaf costs now", x.lures(0, 1), 1);
        Check.due("not the other", x.lures(1, 1), 0);
        Check.due("lures still", x.lures(0, 0), 1);
    }

    private static void gains() {
        StayHouse x = Check.open(CAPTIVE.replace("HOW", "two"));
        x.hold(0, 0, 4);
        x.hold(1, 0, 4);
        x.seed(1000);
        Check.due("best of the first", x.best(0), 10);
        Check.due("gain of the first", x.gain(0), 20);
        Check.due("best of the second", x.best(1), 10);
        Check.due("gain of the second", x.gain(1), 20);
        Check.due("trouble", x.trouble(), 0);
        x.ask(1, 1, 1);
        Check.due("best then", x.best(0), 11);
        Check.due("gain then", x.gain(0), 140 - 70);
        x.ask(0, 1, 1);
        Check.due("nothing to gain", x.gain(0), 0);
        Check.due("the best is what it asks", x.best(0), 11);
        Check.due("the second would lure", x.best(1), 10);
        Check.due("by so much", x.gain(1), 50);
        Check.due("asked stays", x.baker(0, 3), 1);
        Check.due("seed stays", x.size(6), 1000);
        Check.due("no year", x.size(5), 0);
        x.ask(0, 0, 1);
        x.hold(0, 0, 0);
        x.ask(1, 0, 0);
        // New ones alone: asking 5 of them is best, whatever is asked of those that are not there.
        Check.due("the first such", x.best(0), 0);
        Check.due("gain", x.gain(0), 50);
    }

    private static void gainsWithOnePrice() {
        StayHouse x = Check.open(CAPTIVE.replace("HOW", "one"));
        x.hold(0, 0, 4);
        x.hold(1, 0, 4);
        x.ask(1, 1, 1);
        Check.due("ten times the old and the new step", x.best(0), 11);
        Check.due("gain", x.gain(0), 70);
        Check.due("best of the second", x.best(1), 11);
        Check.due("gain of the second", x.gain(1), 0);
    }

    /** The first thing asked of a town, with steps and new ones of its own. */
    private static void bestOfMany() {
        StayHouse x = Check.open(FREE + "sort s new 10 worth 50 leaves 99 stays 100 far;sort t new 1 worth 30 leaves 99 stays 100 near;"
            + "prices two 5,10,40;keep 100");
        Check.due("best", x.best(1), 0);
        x.ask(0, 2, 2);
        // Far looking ones pay 40 now to pay 5 then, rather than 40 and 40.
        Check.due("best of three steps", x.best(1), 2);
        x.ask(0, 2, 1);
        x.hold(1, 1, 3);
        // 40 and 5 against 10 and 40: asking 10 of the three that are held would bring 15, but lose the ten.
        Check.due("best with held ones of the poorer sort", x.best(1), 2);
        Check.due("gain", x.gain(1), 10 * 40 + 3 * 5 - (10 * 5 + 1 * 5 + 3 * 5));
    }

    private static void edges() {
        Check.due("one price: nobody lures", Check.open(CAPTIVE.replace("HOW", "one")).edge(), 0);
        StayHouse x = Check.open(CAPTIVE.replace("HOW", "two").replace("keep 100", "keep 0"));
        x.hold(0, 0, 4);
        x.hold(1, 0, 4);
        Check.due("far ones that keep nothing look near", x.edge(), -2);
        Check.due("not refused", x.trouble(), 0);
        Check.due("no rest by it", x.act(0, 0), -1);
        Check.due("by 6", x.trouble(), 6);
        // Asking 5 of its own too costs the first 5 for each of these, and brings it 5 for each new one that looks far.
        String text = CAPTIVE.replace("HOW", "two");
        Check.due("one held, one far looking", edgeOf(text, 1), 10);
        Check.due("two held", edgeOf(text, 2), 20);
        Check.due("ten held: all of them", edgeOf(text, 10), 100);
        Check.due("eleven held", edgeOf(text, 11), -2);
        Check.due("looks as told do not matter", edgeOf(text.replace("near", "far"), 2), 20);
        Check.due("hundredths of three, downwards", edgeOf(text.replace("new 10", "new 3"), 1), 34);
    }

    private static int edgeOf(String text, int held) {
        StayHouse x = Check.open(text);
        x.hold(0, 0, held);
        return x.edge();
    }
}
