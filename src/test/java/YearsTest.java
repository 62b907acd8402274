/** Promises 6 to 14, 29 and 30: held and asked, choices, years that go on and come again. */
public final class YearsTest {
    private static final String BAKERS = "baker a costs 2 fits 1 enters 10;baker b costs 4 fits 2 enters 10;";
    private static final String TOWN = BAKERS + "sort s new 10 worth 20 leaves 5 stays 50 near;prices two 5,10;keep 50";

    public static void main(String[] args) {
        withoutTown();
        holding();
        asking();
        likeOnes();
        leavingHalf();
        farLooking();
        farWithNoneNow();
        wrongBuyers();
        oneYear();
        togetherByBaker();
        leftForNone();
        seeds();
        seedForEachSort();
        seedThatEnds();
        manyYears();
        comingAgain();
        againNow();
        changing();
        led();
        Check.end();
    }

    private static void withoutTown() {
        StayHouse x = new StayHouse();
        Check.due("hold", x.hold(0, 0, 0), false);
        Check.due("by 1", x.trouble(), 1);
        Check.due("ask", x.ask(0, 0, 0), false);
        Check.due("seed", x.seed(0), false);
        Check.due("by 1", x.trouble(), 1);
        Check.due("seed", x.seed(-1), false);
        Check.due("by 1 ahead of 2", x.trouble(), 1);
        Check.due("go", x.go(99), -1);
        Check.due("by 1 ahead of 2", x.trouble(), 1);
        Check.due("again", x.again(0), false);
        Check.due("by 1", x.trouble(), 1);
        Check.due("choose", x.choose(-1, 0), -1);
        Check.due("has", x.has(-1, 0, -2), -2147483648);
        Check.due("change", x.change(0, 0), -1000);
        Check.due("earned", x.earned(0, 0), Long.MIN_VALUE);
        Check.due("by 1", x.trouble(), 1);
    }

    private static void holding() {
        StayHouse x = Check.open(TOWN);
        Check.due("hold", x.hold(1, 0, 9999), true);
        Check.due("trouble", x.trouble(), 0);
        Check.due("held", x.held(1, 0), 9999);
        Check.due("held by the other", x.held(0, 0), 0);
        Check.due("hold too many", x.hold(1, 0, 10000), false);
        Check.due("by 2", x.trouble(), 2);
        Check.due("hold less than none", x.hold(1, 0, -1), false);
        Check.due("by 2", x.trouble(), 2);
        Check.due("held stays", x.held(1, 0), 9999);
        Check.due("hold fewer", x.hold(1, 0, 0), true);
        Check.due("held", x.held(1, 0), 0);
        int[][] wrong = {{2, 0}, {-1, 0}, {0, 1}, {0, -1}};
        for (int[] w : wrong) {
            Check.due("hold " + w[0] + " " + w[1], x.hold(w[0], w[1], -1), false);
            Check.due("by 1 ahead of 2", x.trouble(), 1);
            Check.due("held " + w[0] + " " + w[1], x.held(w[0], w[1]), -1);
            Check.due("by 1", x.trouble(), 1);
        }
    }

    private static void asking() {
        StayHouse x = Check.open(TOWN);
        Check.due("ask", x.ask(1, 1, 0), true);
        Check.due("trouble", x.trouble(), 0);
        Check.due("old", x.baker(1, 3), 1);
        Check.due("new", x.baker(1, 4), 0);
        Check.due("other's", x.baker(0, 3), 0);
        Check.due("ask of none", x.ask(2, 9, 0), false);
        Check.due("by 1 ahead of 2", x.trouble(), 1);
        Check.due("ask of none", x.ask(-1, 0, 0), false);
        Check.due("by 1", x.trouble(), 1);
        int[][] wrong = {{2, 0}, {0, 2}, {-1, 0}, {0, -1}};
        for (int[] w : wrong) {
            Check.due("ask " + w[0] + " " + w[1], x.ask(1, w[0], w[1]), false);
            Check.due("by 2", x.trouble(), 2);
        }
        Check.due("old stays", x.baker(1, 3), 1);
        StayHouse one = Check.open(TOWN.replace("two", "one"));
        Check.due("one price", one.ask(0, 1, 0), false);
        Check.due("by 5", one.trouble(), 5);
        Check.due("one price, no step", one.ask(0, 2, 0), false);
        Check.due("by 2 ahead of 5", one.trouble(), 2);
        Check.due("one price for both", one.ask(0, 1, 1), true);
        Check.due("old", one.baker(0, 3), 1);
        Check.due("new", one.baker(0, 4), 1);
    }

    private static void likeOnes() {
        StayHouse x = Check.open(TOWN);
        Check.due("new: the least baker", x.choose(-1, 0), 0);
        x.ask(0, 1, 1);
        Check.due("new: the cheaper", x.choose(-1, 0), 1);
        x.ask(0, 0, 0);
        x.ask(1, 1, 0);
        Check.due("of another", x.has(1, 0, 0), 10);
        Check.due("of its own", x.has(1, 0, 1), 10);
        Check.due("its own first", x.choose(1, 0), 1);
        Check.due("of none", x.has(1, 0, -2), 0);
        StayHouse poor = Check.open(TOWN.replace("worth 20", "worth 5"));
        Check.due("a baker ahead of none", poor.choose(-1, 0), 0);
        Check.due("its own ahead of none", poor.choose(1, 0), 1);
        poor.ask(0, 1, 1);
        poor.ask(1, 1, 1);
        Check.due("none", poor.choose(-1, 0), -2);
        Check.due("not refused", poor.trouble(), 0);
        Check.due("none for held ones", poor.choose(0, 0), -2);
        Check.due("less than none", poor.has(-1, 0, 1), -5);
    }

    private static void leavingHalf() {
        StayHouse x = Check.open(TOWN.replace("fits 2", "fits 1"));
        Check.due("half of 5, downwards", x.has(1, 0, 0), 13);
        Check.due("its own", x.has(1, 0, 1), 15);
        Check.due("a new one", x.has(-1, 0, 0), 15);
        x.ask(1, 1, 0);
        Check.due("leaves for one that fits alike", x.choose(1, 0), 0);
        Check.due("the whole of it", Check.open(TOWN).has(1, 0, 0), 10);
    }

    /** Near the first is cheaper now; far the second is, as the first asks more of its own. */
    private static void farLooking() {
        String text = BAKERS + "sort s new 10 worth 20 leaves 9 stays 50 LOOK;prices two 5,6,10;keep KEEP";
        int[][] due = {{100, 25, 28, 15, 1}, {50, 20, 21, 7, 1}, {10, 16, 15, 1, 0}, {0, 15, 14, 0, 0}, {3, 15, 14, 0, 0}};
        for (int[] d : due) {
            StayHouse x = Check.open(text.replace("LOOK", "far").replace("KEEP", "" + d[0]));
            x.ask(0, 2, 0);
            x.ask(1, 1, 1);
            Check.due("far, first", x.has(-1, 0, 0), d[1]);
            Check.due("far, second", x.has(-1, 0, 1), d[2]);
            Check.due("far, none", x.has(-1, 0, -2), d[3]);
            Check.due("far, choice", x.choose(-1, 0), d[4]);
        }
        StayHouse near = Check.open(text.replace("LOOK", "near").replace("KEEP", "100"));
        near.ask(0, 2, 0);
        near.ask(1, 1, 1);
        Check.due("near, first", near.has(-1, 0, 0), 15);
        Check.due("near, choice", near.choose(-1, 0), 0);
        StayHouse held = Check.open(text.replace("LOOK", "far").replace("KEEP", "100"));
        held.ask(0, 2, 0);
        held.ask(1, 1, 1);
        // Its own now and then 10 each; the other 14 less 9, then 14; none now, then 15 as a new one.
        Check.due("held, own", held.has(0, 0, 0), 20);
        Check.due("held, other", held.has(0, 0, 1), 19);
        Check.due("held, none", held.has(0, 0, -2), 15);
        Check.due("held, choice", held.choose(0, 0), 0);
        farHeldOnes();
    }

    /** 10 of its own each year, or 5 now and 6 then: near ones stay with keep 50, far ones go. */
    private static void farHeldOnes() {
        String text = BAKERS + "sort n new 0 worth 20 leaves 9 stays 100 near;sort f new 0 worth 20 leaves 9 stays 100 far;"
            + "prices two 5,6,10;keep 100";
        StayHouse x = Check.open(text);
        x.hold(0, 0, 7);
        x.hold(0, 1, 5);
        x.ask(0, 2, 2);
        x.ask(1, 0, 0);
        Check.due("near, own", x.has(0, 0, 0), 10);
        Check.due("near, other", x.has(0, 0, 1), 6);
        Check.due("far, own", x.has(0, 1, 0), 20);
        Check.due("far, other", x.has(0, 1, 1), 21);
        Check.due("near stays", x.choose(0, 0), 0);
        Check.due("far goes", x.choose(0, 1), 1);
        Check.due("five leave", x.go(1), 5);
        Check.due("near ones", x.held(0, 0), 7);
        Check.due("far ones", x.held(1, 1), 5);
        Check.due("asked of the first", 10 * x.baker(0, 3) + x.baker(0, 4), 22);
        Check.due("nobody else leaves", x.go(2), 0);
        Check.due("asked still", 10 * x.baker(0, 3) + x.baker(0, 4), 22);
    }

    private static void farWithNoneNow() {
        StayHouse x = Check.open(BAKERS + "sort s new 10 worth 8 leaves 9 stays 50 far;prices two 0,10;keep 100");
        x.ask(0, 0, 1);
        x.ask(1, 1, 1);
        Check.due("less now, more then", x.has(-1, 0, 0), 6);
        Check.due("never", x.has(-1, 0, 1), -2);
        Check.due("none", x.has(-1, 0, -2), 0);
        Check.due("buys dear to be held", x.choose(-1, 0), 0);
        // Of no baker now 0, and next year at its cheapest as a new one: at like prices that is as good as nothing.
        x.ask(0, 1, 0);
        x.ask(1, 1, 1);
        Check.due("held leaves for none", x.has(0, 0, -2), 8);
        Check.due("its own", x.has(0, 0, 0), -2);
        Check.due("none then new", x.choose(0, 0), -2);
    }

    private static void wrongBuyers() {
        StayHouse x = Check.open(TOWN);
        int[][] wrong = {{2, 0, 0}, {-2, 0, 0}, {0, 1, 0}, {0, -1, 0}, {0, 0, 2}, {0, 0, -1}, {0, 0, -3}};
        for (int[] w : wrong) {
            Check.due("has", x.has(w[0], w[1], w[2]), -2147483648);
            Check.due("by 1", x.trouble(), 1);
            if (w[2] == 0) {
                Check.due("choose", x.choose(w[0], w[1]), -1);
                Check.due("by 1", x.trouble(), 1);
            }
        }
        Check.due("has", x.has(-1, 0, -2), 0);
        Check.due("trouble", x.trouble(), 0);
    }

    private static void oneYear() {
        StayHouse x = Check.open(TOWN.replace("costs 4", "costs 7"));
        x.hold(0, 0, 3);
        x.hold(1, 0, 4);
        x.ask(0, 1, 1);
        Check.due("nobody leaves", x.go(1), 0);
        // The first keeps three at 10, like ones its own first; the second has four and ten at 5.
        Check.due("earned", x.earned(0, 0), 24);
        Check.due("earned below costs", x.earned(1, 0), -28);
        Check.due("held", x.held(0, 0), 1);
        Check.due("held", x.held(1, 0), 7);
        Check.due("earned later", x.earned(0, 1), Long.MIN_VALUE);
        Check.due("by 1", x.trouble(), 1);
        Check.due("earned earlier", x.earned(0, -1), Long.MIN_VALUE);
        Check.due("earned of none", x.earned(2, 0), Long.MIN_VALUE);
        Check.due("by 1", x.trouble(), 1);
    }

    private static void togetherByBaker() {
        StayHouse x = Check.open(BAKERS + "sort s new 3 worth 20 leaves 0 stays 50 near;sort t new 1 worth 20 leaves 0 stays 50 near;"
            + "prices two 5,10;keep 50");
        x.hold(0, 0, 3);
        x.hold(1, 0, 1);
        x.hold(0, 1, 0);
        x.ask(1, 1, 1);
        Check.due("one leaves", x.go(1), 1);
        Check.due("3, 3 and 1, half of them", x.held(0, 0), 3);
        Check.due("none", x.held(1, 0), 0);
        Check.due("each sort by itself", x.held(0, 1), 0);
        Check.due("who leaves pays the new price", x.earned(0, 0), 24);
        Check.due("one is somebody, in the first year", Check.led(x, 0), 0);
        Check.due("what is asked stays asked", 10 * x.baker(1, 3) + x.baker(1, 4), 11);
    }

    private static void leftForNone() {
        StayHouse x = Check.open(TOWN.replace("worth 20", "worth 4"));
        x.hold(0, 0, 10);
        x.hold(1, 0, 5);
        Check.due("to none", x.go(1), 15);
        Check.due("earned", x.earned(0, 0), 0);
        Check.due("held", x.held(0, 0), 0);
        Check.due("nobody is left to leave", x.go(3), 0);
        Check.due("who does not stay has not left", goWithStays(0), 0);
    }

    private static int goWithStays(int stays) {
        StayHouse x = Check.open(TOWN.replace("stays 50", "stays " + stays));
        x.hold(0, 0, 10);
        return x.go(2);
    }

    private static void seeds() {
        StayHouse x = Check.open(TOWN.replace("stays 50", "stays 100"));
        int[][] due = {{1, 149, 11}, {1000, 9537, 9}, {2000, 19000, 10}, {65536, 65536, 10}, {0, 0, 10}};
        for (int[] d : due) {
            x.again(0);
            Check.due("seed", x.seed(d[0]), true);
            Check.due("size 6", x.size(6), d[0]);
            x.go(1);
            Check.due("seed then", x.size(6), d[1]);
            Check.due("as many new ones", x.held(0, 0), d[2]);
        }
        x.again(0);
        x.seed(1);
        x.go(2);
        // 75 times 149 and 74 is 11,249: mod 3 less 1 is 1.
        Check.due("seed after two", x.size(6), 11249);
        Check.due("held after two", x.held(0, 0), 22);
        Check.due("seed -1", x.seed(-1), false);
        Check.due("by 2", x.trouble(), 2);
        Check.due("seed 65537", x.seed(65537), false);
        Check.due("by 2", x.trouble(), 2);
        Check.due("seed stays", x.size(6), 11249);
        StayHouse none = Check.open(TOWN.replace("new 10", "new 0").replace("stays 50", "stays 100"));
        none.seed(1000);
        none.go(1);
        Check.due("0 at least", none.held(0, 0), 0);
        Check.due("seed moves all the same", none.size(6), 9537);
    }

    private static void seedForEachSort() {
        StayHouse x = Check.open(BAKERS + "sort s new 10 worth 20 leaves 5 stays 100 near;sort t new 10 worth 20 leaves 5 stays 100 far;"
            + "prices two 5,10;keep 50");
        x.seed(1000);
        x.go(1);
        // 9,537 (one less), then 75 times that and 74 is 715,349, mod 65,537 it is 59,979 (one less).
        Check.due("first sort", x.held(0, 0), 9);
        Check.due("second sort", x.held(0, 1), 9);
        Check.due("seed", x.size(6), 59979);
        Check.due("rest has no seed", x.rest(1), 0);
        Check.due("seed after rest", x.size(6), 59979);
    }

    /** 45,438 is the one seed whose next is 0: from there on there is none. */
    private static void seedThatEnds() {
        StayHouse x = Check.open(BAKERS + "sort s new 10 worth 20 leaves 5 stays 100 near;sort t new 10 worth 20 leaves 5 stays 100 far;"
            + "prices two 5,10;keep 50");
        int seed = 0;
        for (int s = 1; s < 65537; s++) {
            seed = (75 * s + 74) % 65537 == 0 ? s : seed;
        }
        x.seed(seed);
        x.go(1);
        Check.due("one less", x.held(0, 0), 9);
        Check.due("as told", x.held(0, 1), 10);
        Check.due("seed", x.size(6), 0);
    }

    private static void manyYears() {
        StayHouse x = Check.open(TOWN);
        Check.due("go(0)", x.go(0), -1);
        Check.due("by 2", x.trouble(), 2);
        Check.due("go(-1)", x.go(-1), -1);
        Check.due("go(11)", x.go(11), -1);
        Check.due("by 2", x.trouble(), 2);
        for (int i = 0; i < 3; i++) {
            Check.due("go(10)", x.go(10), 0);
        }
        Check.due("go(5)", x.go(5), 0);
        Check.due("go(6)", x.go(6), -1);
        Check.due("by 3", x.trouble(), 3);
        Check.due("years", x.size(5), 35);
        Check.due("go(11) then", x.go(11), -1);
        Check.due("by 2 ahead of 3", x.trouble(), 2);
        Check.due("go(5)", x.go(5), 0);
        Check.due("years", x.size(5), 40);
        Check.due("go(1)", x.go(1), -1);
        Check.due("by 3", x.trouble(), 3);
        Check.due("the last year", x.earned(0, 39), 57);
        Check.due("no year 40", x.earned(0, 40), Long.MIN_VALUE);
        Check.due("hold after forty", x.hold(0, 0, 5), true);
        Check.due("ask after forty", x.ask(0, 1, 1), true);
        Check.due("seed after forty", x.seed(3), true);
        Check.due("again", x.again(39), true);
        Check.due("room again", x.go(1), 0);
        Check.due("held grows beyond what may be told", grown(), 20008);
    }

    private static int grown() {
        StayHouse x = Check.open(TOWN.replace("stays 50", "stays 100").replace("leaves 5", "leaves 0"));
        x.hold(0, 0, 9999);
        x.hold(1, 0, 9999);
        x.ask(1, 1, 1);
        x.go(1);
        return x.held(0, 0);
    }

    private static void comingAgain() {
        StayHouse x = Check.open(TOWN);
        x.hold(0, 0, 8);
        x.seed(1);
        x.go(1);
        x.ask(1, 1, 0);
        x.hold(1, 0, 6);
        x.seed(2);
        x.go(3);
        Check.due("again(5)", x.again(5), false);
        Check.due("by 2", x.trouble(), 2);
        Check.due("again(-1)", x.again(-1), false);
        Check.due("by 2", x.trouble(), 2);
        Check.due("years", x.size(5), 4);
        Check.due("again(1)", x.again(1), true);
        Check.due("trouble", x.trouble(), 0);
        Check.due("years", x.size(5), 1);
        Check.due("held by the first", x.held(0, 0), 9);
        Check.due("held by the second, told ahead of that year", x.held(1, 0), 6);
        Check.due("asked", x.baker(1, 3), 1);
        Check.due("seed", x.size(6), 2);
        Check.due("earned there", x.earned(0, 0), 57);
        Check.due("no later year", x.earned(0, 1), Long.MIN_VALUE);
        Check.due("again(2) is none then", x.again(2), false);
        Check.due("again(0)", x.again(0), true);
        Check.due("held", x.held(0, 0), 8);
        Check.due("held", x.held(1, 0), 0);
        Check.due("asked", x.baker(1, 3), 0);
        Check.due("seed", x.size(6), 1);
    }

    /** Ahead of the year that comes next everything is as it is now. */
    private static void againNow() {
        StayHouse x = Check.open(TOWN);
        x.go(2);
        x.hold(1, 0, 77);
        x.ask(0, 1, 1);
        x.seed(5);
        Check.due("again", x.again(2), true);
        Check.due("held", x.held(1, 0), 77);
        Check.due("asked", x.baker(0, 4), 1);
        Check.due("seed", x.size(6), 5);
        Check.due("years", x.size(5), 2);
    }

    private static void changing() {
        StayHouse x = Check.open(TOWN);
        Check.due("more", x.change(0, 99), 97);
        Check.due("costs", x.baker(0, 0), 99);
        Check.due("less", x.change(0, 0), -99);
        Check.due("the same", x.change(0, 0), 0);
        Check.due("trouble", x.trouble(), 0);
        Check.due("too much", x.change(0, 100), -1000);
        Check.due("by 2", x.trouble(), 2);
        Check.due("too little", x.change(0, -1), -1000);
        Check.due("by 2", x.trouble(), 2);
        Check.due("none such", x.change(2, 100), -1000);
        Check.due("by 1", x.trouble(), 1);
        Check.due("costs stay", x.baker(0, 0), 0);
        Check.due("costs of the other", x.baker(1, 0), 4);
        x.go(1);
        Check.due("earned by new costs", x.earned(0, 0), 50);
        x.change(0, 1);
        x.again(0);
        Check.due("costs are not of a year", x.baker(0, 0), 1);
    }

    private static void led() {
        StayHouse x = Check.open(TOWN.replace("leaves 5", "leaves 0"));
        x.go(2);
        x.ask(0, 1, 1);
        x.go(2);
        x.ask(0, 0, 0);
        x.ask(1, 1, 1);
        x.go(1);
        Check.due("led(0)", Check.led(x, 0), 2);
        Check.due("led(1)", Check.led(x, 1), 4);
        Check.due("led(2)", Check.led(x, 2), -1);
        Check.due("led(-1)", Check.led(x, -1), -1);
        x.again(4);
        Check.due("led(1) then", Check.led(x, 1), -1);
        Check.due("led(0) still", Check.led(x, 0), 2);
        boolean thrown = false;
        try {
            x.led(-1);
        } catch (java.util.NoSuchElementException e) {
            thrown = true;
        }
        Check.due("led throws", thrown, true);
    }
}
