import java.util.ArrayList;
import java.util.List;

/**
 * Terms IV and, of each call, what is refused, by which number, what it answers then, and that all stays as it was: an object
 * on which a refused call was made is held against one on which it was not, now and ahead of each year that comes again.
 */
public final class RefusalTest {
    private static final long NO_LONG = Long.MIN_VALUE;
    private static final long NO_INT = Integer.MIN_VALUE;
    private static final int MIN = Integer.MIN_VALUE;
    private static final int MAX = Integer.MAX_VALUE;
    private static final String TOWN = "baker a costs 2 fits 1 enters 10;baker b costs 4 fits 2 enters 10;"
        + "sort s new 10 worth 20 leaves 3 stays 50 near;sort t new 4 worth 9 leaves 1 stays 80 far;prices two 5,6,10;keep 50";

    interface Call {
        long on(StayHouse x);
    }

    record Row(String said, Call call, long answer, int trouble) {
    }

    private static final List<Row> ROWS = new ArrayList<>();

    public static void main(String[] args) {
        newObject();
        withoutTown();
        withTown("two");
        withTown("one");
        withoutRest();
        afterFortyYears();
        faultyTowns();
        onlyTheLatestCounts();
        callsThatTellNoNumber();
        fiveHundredAndTwelveCalls();
        Check.end();
    }

    private static void row(String said, long answer, int trouble, Call call) {
        ROWS.add(new Row(said, call, answer, trouble));
    }

    private static long flag(boolean b) {
        return b ? 1 : 0;
    }

    // ---- what is refused

    private static void rowsOfTown(int fed) {
        for (int n : new int[] {-1, fed + 1, MIN, MAX}) {
            row("town " + n, -1, 2, x -> x.town(n));
        }
    }

    /** b is none such, whatever else is told. */
    private static void rowsOfNoBaker(int b) {
        for (int other : new int[] {0, -7, MAX}) {
            row("hold of baker " + b, 0, 1, x -> flag(x.hold(b, 0, other)));
            row("ask of baker " + b, 0, 1, x -> flag(x.ask(b, other, 0)));
            row("earned of baker " + b, NO_LONG, 1, x -> x.earned(b, other));
            row("act of baker " + b, -1, 1, x -> x.act(b, other));
            row("promise of baker " + b, NO_LONG, 1, x -> x.promise(b, other, other));
            row("shape of baker " + b, NO_LONG, 1, x -> x.shape(b, other, other));
            row("shape as baker " + b, NO_LONG, 1, x -> x.shape(0, b, other));
            row("fit of baker " + b, -1, 1, x -> x.fit(b, other));
            row("late of baker " + b, -1, 1, x -> x.late(b, other));
            row("lures of baker " + b, -1, 1, x -> x.lures(b, other));
            row("change of baker " + b, -1000, 1, x -> x.change(b, other));
            if (b != -1) {
                row("choose of baker " + b, -1, 1, x -> x.choose(b, other));
                row("has of baker " + b, NO_INT, 1, x -> x.has(b, other, other));
            }
            if (b != -2) {
                row("has to baker " + b, NO_INT, 1, x -> x.has(0, 0, b));
            }
        }
        row("held of baker " + b, -1, 1, x -> x.held(b, 0));
        row("worth of baker " + b, NO_LONG, 1, x -> x.worth(b));
        row("gain of baker " + b, NO_LONG, 1, x -> x.gain(b));
        row("best of baker " + b, -1, 1, x -> x.best(b));
    }

    private static void rowsOfNoSort(int s) {
        for (int other : new int[] {0, -7, MAX}) {
            row("hold of sort " + s, 0, 1, x -> flag(x.hold(0, s, other)));
            row("paid of sort " + s, NO_LONG, 1, x -> x.paid(s, other, 0));
            row("leavings of sort " + s, NO_LONG, 1, x -> x.leavings(s, other, 0));
            row("kindest of sort " + s, -1, 1, x -> x.kindest(s, other));
        }
        row("choose of sort " + s, -1, 1, x -> x.choose(0, s));
        row("choose of a new one of sort " + s, -1, 1, x -> x.choose(-1, s));
        row("has of sort " + s, NO_INT, 1, x -> x.has(0, s, 0));
        row("has of none of sort " + s, NO_INT, 1, x -> x.has(-1, s, -2));
        row("held of sort " + s, -1, 1, x -> x.held(0, s));
    }

    private static void rowsOfNoLaw(int law) {
        for (int n : new int[] {1, 3, 0, 4, MAX}) {
            row("paid by law " + law, NO_LONG, 1, x -> x.paid(0, n, law));
            row("leavings by law " + law, NO_LONG, 1, x -> x.leavings(0, n, law));
        }
    }

    private static void rowsOfNoYear(int year) {
        row("earned in " + year, NO_LONG, 1, x -> x.earned(0, year));
    }

    private static void rowsOfNoWhat(int what) {
        row("act " + what, -1, 1, x -> x.act(0, what));
        row("lures " + what, -1, 1, x -> x.lures(0, what));
    }

    private static void rowsOfNumbers(int years) {
        for (int n : new int[] {-1, 10000, 10001, MIN, MAX}) {
            row("hold " + n, 0, 2, x -> flag(x.hold(1, 1, n)));
        }
        for (int v : new int[] {-1, 65537, MIN, MAX}) {
            row("seed " + v, 0, 2, x -> flag(x.seed(v)));
        }
        for (int n : new int[] {0, -1, 11, 41, MIN, MAX}) {
            row("go " + n, -1, 2, x -> x.go(n));
        }
        for (int y : new int[] {-1, years + 1, years + 2, MIN, MAX}) {
            row("again " + y, 0, 2, x -> flag(x.again(y)));
        }
        for (int v : new int[] {-1, 100, MIN, MAX}) {
            row("change " + v, -1000, 2, x -> x.change(1, v));
        }
        for (int step : new int[] {-1, 3, MIN, MAX}) {
            row("ask old " + step, 0, 2, x -> flag(x.ask(1, step, 0)));
            row("ask new " + step, 0, 2, x -> flag(x.ask(1, 0, step)));
            row("promise " + step, NO_LONG, 2, x -> x.promise(1, step, 1));
            row("promise without room " + step, NO_LONG, 2, x -> x.promise(1, step, 3));
        }
        for (int n : new int[] {0, -1, 4, MIN, MAX}) {
            rowsOfYearsAhead(n, 2);
            for (int law = 0; law <= 5; law++) {
                rowsByLaw(n, law, 2);
            }
        }
    }

    private static void rowsOfYearsAhead(int n, int trouble) {
        row("rest " + n, -1, trouble, x -> x.rest(n));
        row("kindest " + n, -1, trouble, x -> x.kindest(1, n));
        row("promise over " + n, NO_LONG, trouble, x -> x.promise(0, 0, n));
        row("shape over " + n, NO_LONG, trouble, x -> x.shape(0, 0, n));
        row("fit over " + n, -1, trouble, x -> x.fit(0, n));
        row("late over " + n, -1, trouble, x -> x.late(0, n));
    }

    private static void rowsByLaw(int n, int law, int trouble) {
        row("paid over " + n + " by law " + law, NO_LONG, trouble, x -> x.paid(1, n, law));
        row("leavings over " + n + " by law " + law, NO_LONG, trouble, x -> x.leavings(1, n, law));
    }

    /** Three steps, two prices, two bakers: 81 acts of all, and no room over three years but by one price. */
    private static void rowsOfNoRoom() {
        rowsOfYearsAhead(3, 3);
        for (int law : new int[] {0, 2, 3, 4, 5}) {
            rowsByLaw(3, law, 3);
        }
    }

    /** With one price a step of each is told, and they are not the same. */
    private static void rowsOfNotSo() {
        for (int old = 0; old < 3; old++) {
            for (int fresh = 0; fresh < 3; fresh++) {
                int o = old;
                int f = fresh;
                if (o != f) {
                    row("ask " + o + " " + f, 0, 5, x -> flag(x.ask(0, o, f)));
                }
            }
        }
    }

    // ---- in which state

    private static void newObject() {
        StayHouse x = new StayHouse();
        Check.due("no trouble", x.trouble(), 0);
        Check.due("no fault", x.fault(), 0);
        Check.due("nowhere", x.where(), -1);
        for (int what = 0; what <= 8; what++) {
            Check.due("nothing of " + what, x.size(what), 0);
        }
        Check.due("no year", Check.led(x, 0), -1);
        Check.due("no baker", x.baker(0, 0), -1);
        Check.due("no sort", x.sort(0, 0), -1);
        Check.due("still no trouble", x.trouble(), 0);
    }

    private static StayHouse empty() {
        StayHouse x = new StayHouse();
        x.feed(0x6b656570, 0x20202020, 0x20202020, 0x20202020, 0x20202020);
        return x;
    }

    private static void withoutTown() {
        ROWS.clear();
        rowsOfTown(20);
        for (int b : new int[] {-2, -1, 0, 1, MAX}) {
            rowsOfNoBaker(b);
        }
        for (int s : new int[] {-1, 0, 1, MAX}) {
            rowsOfNoSort(s);
        }
        for (int n : new int[] {0, 1, 3, 4, MAX}) {
            row("seed " + n, 0, 1, x -> flag(x.seed(n)));
            row("go " + n, -1, 1, x -> x.go(n));
            row("again " + n, 0, 1, x -> flag(x.again(n)));
            row("rest " + n, -1, 1, x -> x.rest(n));
        }
        row("seed -1", 0, 1, x -> flag(x.seed(-1)));
        row("edge", -1, 1, StayHouse::edge);
        for (Row r : ROWS) {
            hold(r, empty(), empty());
        }
    }

    /** Two years, some held, asked and a seed, a rest, and some bytes on the tape. */
    private static StayHouse settled(String how) {
        StayHouse x = Check.open(TOWN.replace("two", how));
        x.hold(0, 0, 8);
        x.hold(1, 1, 30);
        x.ask(1, 1, how.equals("two") ? 0 : 1);
        x.seed(1000);
        x.go(1);
        x.hold(1, 0, 12);
        x.ask(0, 2, how.equals("two") ? 1 : 2);
        x.seed(77);
        x.go(1);
        x.ask(1, 2, 2);
        x.rest(2);
        x.change(0, 3);
        x.feed(0x6b656570, 0x20202020, 0x20202020, 0x20202020, 0x20202020);
        return x;
    }

    private static void withTown(String how) {
        ROWS.clear();
        rowsOfTown(20);
        for (int b : new int[] {-2, -1, 2, 3, MIN, MAX}) {
            rowsOfNoBaker(b);
        }
        for (int s : new int[] {-1, 2, 3, MIN, MAX}) {
            rowsOfNoSort(s);
        }
        for (int law : new int[] {-1, 6, MIN, MAX}) {
            rowsOfNoLaw(law);
        }
        for (int year : new int[] {-1, 2, 3, 40, MIN, MAX}) {
            rowsOfNoYear(year);
        }
        for (int what : new int[] {-1, 2, MIN, MAX}) {
            rowsOfNoWhat(what);
        }
        rowsOfNumbers(2);
        if (how.equals("two")) {
            rowsOfNoRoom();
        } else {
            rowsOfNotSo();
        }
        for (Row r : ROWS) {
            hold(r, settled(how), settled(how));
        }
    }

    private static StayHouse unrested() {
        StayHouse x = Check.open(TOWN);
        x.hold(0, 0, 8);
        x.go(1);
        return x;
    }

    private static void withoutRest() {
        ROWS.clear();
        for (int b = 0; b < 2; b++) {
            int baker = b;
            row("act", -1, 6, x -> x.act(baker, 0));
            row("act", -1, 6, x -> x.act(baker, 1));
            row("lures", -1, 6, x -> x.lures(baker, 0));
            row("lures", -1, 6, x -> x.lures(baker, 1));
            row("worth", NO_LONG, 6, x -> x.worth(baker));
        }
        for (int b : new int[] {-1, 2}) {
            row("act of none", -1, 1, x -> x.act(b, 0));
            row("lures of none", -1, 1, x -> x.lures(b, 0));
            row("worth of none", NO_LONG, 1, x -> x.worth(b));
            row("act of what isn't", -1, 1, x -> x.act(0, 3 * b + 2));
            row("lures of what isn't", -1, 1, x -> x.lures(0, 3 * b + 2));
        }
        for (Row r : ROWS) {
            hold(r, unrested(), unrested());
        }
        // Calls that look for rest, but are not rest(), leave none behind.
        StayHouse x = unrested();
        x.paid(0, 1, 0);
        x.leavings(0, 1, 0);
        x.kindest(0, 1);
        x.promise(0, 0, 1);
        x.shape(0, 1, 1);
        x.fit(0, 1);
        x.late(0, 1);
        x.edge();
        x.gain(0);
        x.best(0);
        x.rest(0);
        x.rest(3);
        Check.due("no rest by them", x.act(0, 0), -1);
        Check.due("by 6", x.trouble(), 6);
    }

    private static StayHouse old(int years) {
        StayHouse x = Check.open(TOWN);
        x.hold(0, 0, 8);
        x.seed(5);
        for (int y = 0; y < years; y++) {
            x.go(1);
        }
        return x;
    }

    private static void afterFortyYears() {
        for (int years = 31; years <= 40; years++) {
            ROWS.clear();
            for (int n = 41 - years; n <= 10; n++) {
                int more = n;
                row("go " + n + " after " + years, -1, 3, x -> x.go(more));
            }
            for (int n : new int[] {0, 11, MIN, MAX}) {
                row("go " + n + " after " + years, -1, 2, x -> x.go(n));
            }
            for (Row r : ROWS) {
                hold(r, old(years), old(years));
            }
        }
    }

    /** The town stays, with all that was told of it since, and a rest that was found; the tape does not. */
    private static void faultyTowns() {
        String[] texts = {"keep", "keep 5;keep 5", "keep 101", "prices one 1,2,3,4", TOWN.replace(";keep 50", "")};
        int[] faults = {1, 3, 4, 5, 6};
        for (int i = 0; i < texts.length; i++) {
            String text = texts[i];
            StayHouse x = settled("two");
            StayHouse y = settled("two");
            x.town(20);
            y.town(20);
            Check.feed(x, text);
            Check.due("town", x.town(text.length()), -1);
            Check.due("by 4", x.trouble(), 4);
            Check.due("fault", x.fault(), faults[i]);
            Check.due("somewhere", x.where() >= 0, true);
            Check.due("the tape is empty", x.size(7), 0);
            // The same fault on the other, without that text.
            y.feed(0, 0, 0, 0, 0);
            y.town(0);
            for (int b = 0; b < 2; b++) {
                x.town(0);
                same("behind fault " + faults[i], x, y);
                x.again(0);
                y.again(0);
            }
        }
    }

    /** The call is refused as it should be, and all is as on the other object. */
    private static void hold(Row r, StayHouse x, StayHouse y) {
        Check.due(r.said(), r.call().on(x), r.answer());
        Check.due(r.said() + " by", x.trouble(), r.trouble());
        Check.due(r.said() + " where", x.where(), -1);
        // Twice, so that a part that was changed by the first shows as well.
        Check.due(r.said() + " again", r.call().on(x), r.answer());
        same(r.said(), x, y);
        if (x.size(0) > 0) {
            int last = x.size(5);
            Check.due(r.said() + ", then again", x.again(last), y.again(last));
            Check.due(r.said() + ", a year more", x.go(1), y.go(1));
            Check.due(r.said() + ", ahead of the last", x.again(last - 1), y.again(last - 1));
            same(r.said() + ", ahead of the last,", x, y);
            x.again(0);
            y.again(0);
            same(r.said() + ", ahead of the first,", x, y);
        }
    }

    private static void same(String said, StayHouse x, StayHouse y) {
        for (int what = 0; what <= 8; what++) {
            Check.due(said + " size " + what, x.size(what), y.size(what));
        }
        Check.due(said + " fault", x.fault(), y.fault());
        for (int b = 0; b < 2; b++) {
            for (int what = 0; what <= 4; what++) {
                Check.due(said + " baker " + what, x.baker(b, what), y.baker(b, what));
                Check.due(said + " sort " + what, x.sort(b, what), y.sort(b, what));
            }
            for (int s = 0; s < 2; s++) {
                Check.due(said + " held", x.held(b, s), y.held(b, s));
                Check.due(said + " choose", x.choose(b, s), y.choose(b, s));
            }
            for (int what = 0; what <= 1; what++) {
                Check.due(said + " act", x.act(b, what), y.act(b, what));
                Check.due(said + " lures", x.lures(b, what), y.lures(b, what));
            }
            Check.due(said + " worth", x.worth(b), y.worth(b));
            Check.due(said + " gain", x.gain(b), y.gain(b));
            int years = x.size(5);
            for (int year = Math.max(0, years - 2); year <= years; year++) {
                Check.due(said + " earned", x.earned(b, year), y.earned(b, year));
            }
            Check.due(said + " led", Check.led(x, b), Check.led(y, b));
        }
    }

    // ---- which call counts

    private static void onlyTheLatestCounts() {
        StayHouse x = settled("two");
        x.hold(9, 0, 0);
        Check.due("by 1", x.trouble(), 1);
        x.hold(0, 0, -1);
        Check.due("by 2", x.trouble(), 2);
        x.rest(3);
        Check.due("by 3", x.trouble(), 3);
        x.town(4);
        Check.due("by 4", x.trouble(), 4);
        Check.due("where", x.where(), 4);
        Check.due("where stays so", x.where(), 4);
        Check.due("fault", x.fault(), 1);
        Check.due("fault is no such call", x.where(), 4);
        Check.due("held", x.held(0, 0) >= 0, true);
        Check.due("by none", x.trouble(), 0);
        Check.due("nowhere", x.where(), -1);
        Check.due("fault still", x.fault(), 1);
        x.town(0);
        Check.due("where", x.where(), 0);
        x.hold(9, 0, 0);
        Check.due("nowhere behind one refused by 1", x.where(), -1);
        x.town(0);
        Check.due("where", x.where(), 0);
        x.town(1);
        Check.due("nowhere behind one refused by 2", x.where(), -1);
        Check.due("the fault of the one before", x.fault(), 1);
        StayHouse one = settled("one");
        one.ask(0, 0, 1);
        Check.due("by 5", one.trouble(), 5);
        StayHouse none = unrested();
        none.act(0, 0);
        Check.due("by 6", none.trouble(), 6);
        Check.due("trouble twice", none.trouble(), 6);
    }

    private static void callsThatTellNoNumber() {
        for (int t = 0; t <= 4; t++) {
            StayHouse x = settled("two");
            Call[] ahead = {y -> y.held(0, 0), y -> y.held(9, 0), y -> y.seed(-1) ? 1 : 0, y -> y.rest(3), y -> y.town(4)};
            ahead[t].on(x);
            Call[] calls = {y -> y.feed(0, 0, 0, 0, 0), StayHouse::fault, StayHouse::where, y -> Check.led(y, 0), y -> Check.led(y, 99),
                y -> Check.led(y, -1), y -> y.size(0), y -> y.size(-1), y -> y.size(9), y -> y.baker(0, 0), y -> y.baker(2, 0), y -> y.baker(0, 5),
                y -> y.sort(0, 0), y -> y.sort(2, 0), y -> y.sort(0, 5), StayHouse::trouble};
            for (int i = 0; i < calls.length; i++) {
                calls[i].on(x);
                Check.due("trouble " + t + " behind call " + i, x.trouble(), t);
                Check.due("where of " + t + " behind call " + i, x.where(), t == 4 ? 4 : -1);
            }
            // A full tape refuses by no number.
            for (int i = 0; i < 40; i++) {
                x.feed(0, 0, 0, 0, 0);
            }
            Check.due("feed", x.feed(0, 0, 0, 0, 0), -1);
            Check.due("trouble " + t + " behind a full tape", x.trouble(), t);
        }
    }

    // ---- how long an object is used

    /** The last of 512 calls answer as the first ones did. */
    private static void fiveHundredAndTwelveCalls() {
        StayHouse x = Check.open(TOWN);
        int calls = (TOWN.length() + 19) / 20 + 1;
        while (calls < 502) {
            x.hold(0, 0, calls % 100);
            calls++;
        }
        Check.due("call 503", x.hold(0, 0, 8), true);
        Check.due("call 504", x.hold(1, 0, 8), true);
        Check.due("call 505", x.ask(1, 2, 0), true);
        Check.due("call 506", x.choose(1, 0), 0);
        Check.due("call 507", x.go(1), 8);
        Check.due("call 508", x.earned(0, 0), 90);
        Check.due("call 509", x.held(0, 0), 13);
        Check.due("call 510", Check.led(x, 0), 0);
        Check.due("call 511", x.rest(2) >= 0, true);
        Check.due("call 512", x.act(0, 0) >= 0, true);
    }
}
