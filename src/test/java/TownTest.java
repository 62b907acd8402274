/** Promises 1 to 5 and 31 to 34: a new object, the tape, the text of a town and its faults, what it tells. */
public final class TownTest {
    private static final String A = "baker a costs 2 fits 1 enters 10";
    private static final String B = "baker b costs 4 fits 2 enters 999";
    private static final String C = "baker c costs 99 fits 9 enters 0";
    private static final String S = "sort s new 10 worth 20 leaves 3 stays 50 near";
    private static final String P = "prices two 5,10";
    private static final String K = "keep 50";
    private static final String WHOLE = A + ";" + B + ";" + S + ";" + P + ";" + K;

    public static void main(String[] args) {
        newObject();
        tape();
        emptyAndUsedTape();
        goodTexts();
        badForms();
        badNames();
        badNumbers();
        tooManyOrFew();
        refusedTownChangesNothing();
        townAnew();
        sizes();
        troubles();
        Check.end();
    }

    private static void newObject() {
        StayHouse x = new StayHouse();
        for (int what = 0; what <= 8; what++) {
            Check.due("new size " + what, x.size(what), 0);
        }
        Check.due("new trouble", x.trouble(), 0);
        Check.due("new fault", x.fault(), 0);
        Check.due("new where", x.where(), -1);
        Check.due("new baker", x.baker(0, 0), -1);
        Check.due("new sort", x.sort(0, 0), -1);
        Check.due("new held", x.held(0, 0), -1);
        Check.due("new trouble after held", x.trouble(), 1);
        Check.due("new led", Check.led(x, 0), -1);
    }

    private static void tape() {
        StayHouse x = new StayHouse();
        for (int i = 1; i <= 35; i++) {
            Check.due("feed " + i, x.feed(0x20202020, 0x20202020, 0x20202020, 0x20202020, 0x20202020), 20 * i);
            Check.due("size 7", x.size(7), 20 * i);
        }
        Check.due("feed beyond 700", x.feed(0, 0, 0, 0, 0), -1);
        Check.due("size 7 then", x.size(7), 700);
        Check.due("feed is never refused by a number", x.trouble(), 0);
        Check.due("700 blanks", x.town(700), -1);
        Check.due("no line", x.fault(), 1);
        Check.due("the end", x.where(), 700);
        Check.due("empty tape", x.size(7), 0);
        Check.due("feed anew", x.feed(0, 0, 0, 0, 0), 20);
    }

    private static void emptyAndUsedTape() {
        StayHouse x = new StayHouse();
        Check.due("town(-1)", x.town(-1), -1);
        Check.due("by 2", x.trouble(), 2);
        Check.due("no fault yet", x.fault(), 0);
        Check.due("nowhere", x.where(), -1);
        Check.due("town(0)", x.town(0), -1);
        Check.due("by 4", x.trouble(), 4);
        Check.due("fault", x.fault(), 1);
        Check.due("where", x.where(), 0);
        Check.feed(x, WHOLE);
        Check.due("feed leaves where alone", x.where(), 0);
        Check.due("town beyond the tape", x.town(x.size(7) + 1), -1);
        Check.due("by 2 again", x.trouble(), 2);
        Check.due("the tape stays", x.size(7), (WHOLE.length() + 19) / 20 * 20);
        Check.due("the fault stays", x.fault(), 1);
        Check.due("where does not", x.where(), -1);
        Check.due("town", x.town(WHOLE.length()), 2);
        Check.due("trouble", x.trouble(), 0);
        Check.due("fault goes", x.fault(), 0);
        Check.due("where none", x.where(), -1);
        Check.due("tape gone", x.size(7), 0);
    }

    private static void good(String text, int bakers) {
        StayHouse x = new StayHouse();
        Check.due("town " + text, Check.town(x, text), bakers);
        Check.due("fault " + x.where() + " " + text, x.fault(), 0);
    }

    private static void bad(String text, int fault, int where) {
        StayHouse x = new StayHouse();
        Check.due("town " + text, Check.town(x, text), -1);
        Check.due("trouble " + text, x.trouble(), 4);
        Check.due("fault " + text, x.fault(), fault);
        Check.due("where " + text, x.where(), where);
        Check.due("no town " + text, x.size(0), 0);
    }

    private static void goodTexts() {
        good(WHOLE, 2);
        good(WHOLE + "   ", 2);
        good("   " + WHOLE, 2);
        good(K + ";" + P + ";" + S + ";" + C + ";" + B + ";" + A, 3);
        good(WHOLE.replace(";", "  ;  ").replace(",", " , "), 2);
        good("bakera costs2fits1enters10;".replace("bakera", "baker a") + B + ";" + S + ";prices two5,10;keep50", 2);
        good("baker costs costs 0 fits 0 enters 0;baker new costs 0 fits 0 enters 0;"
            + "sort near new 0 worth 0 leaves 0 stays 0 far;sort one new 99 worth 199 leaves 99 stays 100 near;prices one 0;keep 0", 2);
        good(A + ";" + B + ";sort abcdefgh new 007 worth 099 leaves 00 stays 0 far;prices one 000,199;keep 100", 2);
        good(WHOLE + ";sort t new 1 worth 1 leaves 1 stays 1 far;sort u new 1 worth 1 leaves 1 stays 1 far;"
            + "sort v new 1 worth 1 leaves 1 stays 1 far", 2);
    }

    private static void badForms() {
        bad("", 1, 0);
        bad("    ", 1, 4);
        bad("bakers", 1, 0);
        bad("a", 1, 0);
        bad(";" + WHOLE, 1, 0);
        bad(WHOLE + ";", 1, WHOLE.length() + 1);
        bad(WHOLE + "; ", 1, WHOLE.length() + 2);
        bad(WHOLE + ";;" + C, 1, WHOLE.length() + 1);
        bad(WHOLE + " " + C, 1, WHOLE.length() + 1);
        bad(WHOLE + ",5", 1, WHOLE.length());
        bad(WHOLE + " 5", 1, WHOLE.length() + 1);
        bad("baker", 1, 5);
        bad("baker ", 1, 6);
        bad("baker 5", 1, 6);
        bad("baker baker", 1, 6);
        bad("baker sort", 1, 6);
        bad("baker prices", 1, 6);
        bad("sort keep", 1, 5);
        bad("baker abcdefghi costs 1", 1, 6);
        bad("baker a cost 1", 1, 8);
        bad("baker a costs x", 1, 14);
        bad("baker a costs 1000", 1, 14);
        bad("baker a costs 0001", 1, 14);
        bad("baker a costs 1 fits 1 enters", 1, 29);
        bad("baker A costs 1", 1, 6);
        bad("Baker a costs 1", 1, 0);
        bad("baker a-b costs 1", 1, 7);
        bad("baker a\tcosts 1", 1, 7);
        bad("baker \u00e1 costs 1", 1, 6);
        bad("\u0000", 1, 0);
        bad("sort s new 1 worth 1 leaves 1 stays 1 both", 1, 38);
        bad("sort s new 1 worth 1 leaves 1 stays 1", 1, 37);
        bad("prices both 1", 1, 7);
        bad("prices 1", 1, 7);
        bad("prices one ,1", 1, 11);
        bad("prices one 1,", 1, 13);
        bad("prices one 1,,2", 1, 13);
        bad("prices one 1 2", 1, 13);
        bad("prices one 1, two", 1, 14);
        bad("keep", 1, 4);
        bad("keep x", 1, 5);
        bad("keep ;", 1, 5);
    }

    private static void badNames() {
        bad(A + ";baker a", 3, 39);
        bad(A + ";sort a", 3, 38);
        bad(S + ";sort s new 1", 3, S.length() + 6);
        bad(S + ";baker s", 3, S.length() + 7);
        String z = "baker xyz costs 2 fits 1 enters 10;";
        bad(z + "sort xyz", 3, z.length() + 5);
        good(z + z.replace("xyz", "yyz") + z.replace("xyz", "xyx") + S + ";" + P + ";" + K, 3);
        good(z + z.replace("xyz", "xy") + S.replace(" s ", " x ") + ";" + P + ";" + K, 2);
        bad(P + ";" + K + ";" + P, 3, P.length() + K.length() + 2);
        bad(K + ";keep", 3, 8);
        good(A.replace(" a ", " ab ") + ";" + A + ";" + S.replace(" s ", " b ") + ";" + P + ";" + K, 2);
    }

    private static void badNumbers() {
        bad("baker a costs 100", 4, 14);
        bad("baker a costs 99 fits 10", 4, 22);
        bad("sort s new 100", 4, 11);
        bad("sort s new 99 worth 200", 4, 20);
        bad("sort s new 99 worth 199 leaves 100", 4, 31);
        bad("sort s new 99 worth 199 leaves 99 stays 101", 4, 40);
        bad("prices one 200", 4, 11);
        bad("prices one 199,200", 4, 15);
        bad("prices one 5,5", 4, 13);
        bad("prices one 5,4", 4, 13);
        bad("keep 101", 4, 5);
        // Of one place the least number.
        bad("prices one 1,2,3,3", 4, 17);
        bad("prices one 1,2,3,200", 4, 17);
        bad("prices one 1,2,3,2000", 1, 17);
        // The first from the left.
        bad("baker a costs 100 fits x;keep 500", 4, 14);
        bad("baker a costs 1 fits x;keep 500", 1, 21);
    }

    private static void tooManyOrFew() {
        bad("prices two 1,2,3,4", 5, 17);
        bad(A + ";" + B + ";" + C + ";baker", 5, A.length() + B.length() + C.length() + 3);
        bad(A + ";" + B + ";" + C + ";baker a", 5, A.length() + B.length() + C.length() + 3);
        StringBuilder sorts = new StringBuilder();
        for (char c = 'p'; c < 't'; c++) {
            sorts.append("sort ").append(c).append(" new 1 worth 1 leaves 1 stays 1 far;");
        }
        bad(sorts + "sort", 5, sorts.length());
        bad(WHOLE.replace(A + ";", ""), 6, WHOLE.length() - A.length() - 1);
        bad(WHOLE.replace(S + ";", ""), 6, WHOLE.length() - S.length() - 1);
        bad(WHOLE.replace(P + ";", ""), 6, WHOLE.length() - P.length() - 1);
        bad(WHOLE.replace(";" + K, ""), 6, WHOLE.length() - K.length() - 1);
        bad(K + "  ", 6, K.length() + 2);
        bad(K + ";", 1, K.length() + 1);
    }

    private static void refusedTownChangesNothing() {
        StayHouse x = Check.open(WHOLE);
        x.hold(0, 0, 7);
        x.ask(1, 1, 0);
        x.seed(5);
        x.go(2);
        x.rest(1);
        int held = x.held(0, 0);
        Check.due("refused", Check.town(x, "keep 1"), -1);
        Check.due("fault", x.fault(), 6);
        Check.due("where", x.where(), 6);
        Check.due("bakers", x.size(0), 2);
        Check.due("held", x.held(0, 0), held);
        Check.due("where after held", x.where(), -1);
        Check.due("fault after held", x.fault(), 6);
        Check.due("asked", x.baker(1, 3), 1);
        Check.due("years", x.size(5), 2);
        Check.due("rest is known", x.act(0, 0) >= 0, true);
    }

    private static void townAnew() {
        StayHouse x = Check.open(A + ";" + B + ";" + C + ";" + S + ";" + P + ";" + K);
        x.hold(2, 0, 500);
        x.ask(0, 1, 1);
        x.seed(77);
        x.go(3);
        x.rest(1);
        Check.due("anew", Check.town(x, WHOLE), 2);
        Check.due("held", x.held(0, 0) + x.held(1, 0), 0);
        Check.due("asked old", x.baker(0, 3), 0);
        Check.due("asked new", x.baker(0, 4), 0);
        Check.due("seed", x.size(6), 0);
        Check.due("years", x.size(5), 0);
        Check.due("led", Check.led(x, 0), -1);
        Check.due("no rest", x.act(0, 0), -1);
        Check.due("by 6", x.trouble(), 6);
        // Nobody of the town before, its third baker's buyers among them, is left anywhere.
        x.go(1);
        Check.due("only new ones", x.earned(0, 0), 30);
        Check.due("held by the first", x.held(0, 0), 5);
        x.go(1);
        Check.due("new ones and held ones", x.earned(0, 1), 45);
    }

    private static void sizes() {
        StayHouse x = Check.open(A + ";" + B + ";" + C + ";" + S + ";sort t new 99 worth 199 leaves 99 stays 100 far;prices two 5,10,20;keep 50");
        int[] sizes = {3, 2, 3, 1, 50, 0, 0, 0, 9};
        for (int what = 0; what < 9; what++) {
            Check.due("size " + what, x.size(what), sizes[what]);
        }
        Check.due("size 9", x.size(9), -1);
        Check.due("size -1", x.size(-1), -1);
        int[] baker = {99, 9, 0, 0, 0};
        int[] second = {4, 2, 999, 0, 0};
        int[] sort = {99, 199, 99, 100, 1};
        int[] first = {10, 20, 3, 50, 0};
        x.ask(2, 2, 1);
        baker[3] = 2;
        baker[4] = 1;
        for (int what = 0; what < 5; what++) {
            Check.due("baker 2 " + what, x.baker(2, what), baker[what]);
            Check.due("baker 1 " + what, x.baker(1, what), second[what]);
            Check.due("sort 1 " + what, x.sort(1, what), sort[what]);
            Check.due("sort 0 " + what, x.sort(0, what), first[what]);
            Check.due("baker 3", x.baker(3, what), -1);
            Check.due("baker -1", x.baker(-1, what), -1);
            Check.due("sort 2", x.sort(2, what), -1);
            Check.due("sort -1", x.sort(-1, what), -1);
        }
        Check.due("baker 0 5", x.baker(0, 5), -1);
        Check.due("baker 0 -1", x.baker(0, -1), -1);
        Check.due("sort 0 5", x.sort(0, 5), -1);
        Check.due("sort 0 -1", x.sort(0, -1), -1);
        x.seed(9);
        Check.due("seed", x.size(6), 9);
        x.go(4);
        Check.due("years", x.size(5), 4);
        x.again(3);
        Check.due("fewer years", x.size(5), 3);
        StayHouse one = Check.open(WHOLE.replace("two", "one"));
        Check.due("one price", one.size(3), 0);
        Check.due("acts with one price", one.size(8), 2);
        Check.due("acts with two prices", Check.open(WHOLE).size(8), 4);
    }

    /** Calls of which no number is told leave trouble as it was. */
    private static void troubles() {
        StayHouse x = Check.open(WHOLE);
        x.hold(5, 0, 0);
        Check.due("trouble", x.trouble(), 1);
        x.feed(0, 0, 0, 0, 0);
        x.fault();
        x.where();
        Check.led(x, 0);
        x.size(0);
        x.size(99);
        x.baker(9, 9);
        x.baker(0, 0);
        x.sort(0, 0);
        Check.due("trouble still", x.trouble(), 1);
        Check.due("trouble again", x.trouble(), 1);
        x.hold(0, 0, 0);
        Check.due("trouble over", x.trouble(), 0);
        x.sort(9, 9);
        x.baker(9, 9);
        Check.led(x, 5);
        Check.due("no trouble still", x.trouble(), 0);
        everyCallTellsItsTrouble();
    }

    /** Each call that may be refused, once as it should be behind one that was refused, once wrong behind one that wasn't. */
    private static void everyCallTellsItsTrouble() {
        StayHouse x = Check.open(WHOLE);
        x.rest(1);
        x.go(1);
        Runnable[] right = {() -> x.hold(0, 0, 1), () -> x.ask(0, 1, 0), () -> x.choose(0, 0), () -> x.has(0, 0, 0), () -> x.seed(1),
            () -> x.go(1), () -> x.again(1), () -> x.held(0, 0), () -> x.earned(0, 0), () -> x.rest(1), () -> x.act(0, 0),
            () -> x.worth(0), () -> x.gain(0), () -> x.best(0), () -> x.paid(0, 1, 0), () -> x.leavings(0, 1, 0), () -> x.kindest(0, 1),
            () -> x.promise(0, 0, 1), () -> x.shape(0, 0, 1), () -> x.fit(0, 1), () -> x.late(0, 1), () -> x.lures(0, 0), x::edge,
            () -> x.change(0, 2)};
        Runnable[] wrong = {() -> x.hold(9, 0, 1), () -> x.ask(9, 1, 0), () -> x.choose(9, 0), () -> x.has(9, 0, 0), () -> x.held(9, 0),
            () -> x.earned(9, 0), () -> x.act(9, 0), () -> x.worth(9), () -> x.gain(9), () -> x.best(9), () -> x.paid(9, 1, 0),
            () -> x.leavings(9, 1, 0), () -> x.kindest(9, 1), () -> x.promise(9, 0, 1), () -> x.shape(9, 0, 1), () -> x.fit(9, 1),
            () -> x.late(9, 1), () -> x.lures(9, 0), () -> x.change(9, 2)};
        for (int i = 0; i < right.length; i++) {
            x.hold(0, 0, -1);
            Check.due("refused ahead of call " + i, x.trouble(), 2);
            right[i].run();
            Check.due("not refused, call " + i, x.trouble(), 0);
        }
        for (int i = 0; i < wrong.length; i++) {
            x.hold(0, 0, 1);
            wrong[i].run();
            Check.due("refused, call " + i, x.trouble(), 1);
        }
    }
}
