import java.util.Random;

/** Random towns and calls, the program held against the document written down plainly. */
public final class RandomTest {
    private final Random random;
    private StayHouse x;
    private Plain y;
    private String story;

    private RandomTest(long seed) {
        random = new Random(seed);
    }

    public static void main(String[] args) {
        int runs = args.length > 0 ? Integer.parseInt(args[0]) : 400;
        long first = args.length > 1 ? Long.parseLong(args[1]) : 1;
        for (int run = 0; run < runs; run++) {
            new RandomTest(first + run).run(60);
        }
        for (int run = 0; run < runs * 25; run++) {
            new RandomTest(1000000L + first + run).texts(6);
        }
        Check.end();
    }

    private int upTo(int most) {
        return random.nextInt(most + 1);
    }

    /** Mostly within 0 .. most - 1, at times just outside. */
    private int index(int most) {
        return random.nextInt(14) == 0 ? random.nextInt(5) - 2 : random.nextInt(Math.max(1, most));
    }

    private String line(int kind, int name) {
        String n = Character.toString((char) ('a' + name));
        switch (kind) {
            case 0: return "baker " + n + " costs " + upTo(random.nextBoolean() ? 9 : 30) + " fits " + upTo(2) + " enters "
                + upTo(random.nextBoolean() ? 60 : 999);
            default: return "sort " + n + " new " + upTo(random.nextBoolean() ? 12 : 99) + " worth " + upTo(60) + " leaves "
                + upTo(random.nextBoolean() ? 12 : 40) + " stays " + (random.nextInt(3) == 0 ? 100 : upTo(100))
                + (random.nextBoolean() ? " near" : " far");
        }
    }

    private String prices() {
        StringBuilder text = new StringBuilder(random.nextInt(3) > 0 ? "prices two " : "prices one ");
        int price = upTo(12);
        int steps = 1 + random.nextInt(3);
        for (int i = 0; i < steps; i++) {
            text.append(i == 0 ? "" : ",").append(price);
            price += 1 + upTo(15);
        }
        return text.toString();
    }

    private String text() {
        int bakers = 2 + (random.nextInt(3) == 0 ? 1 : 0);
        int sorts = 1 + random.nextInt(random.nextInt(3) == 0 ? 4 : 2);
        StringBuilder text = new StringBuilder();
        for (int i = 0; i < bakers + sorts; i++) {
            text.append(line(i < bakers ? 0 : 1, i)).append(";");
        }
        text.append(prices()).append(";keep ").append(random.nextInt(4) == 0 ? 100 : upTo(100));
        return text.toString();
    }

    private void feed(String text) {
        for (int at = 0; at < text.length(); at += 20) {
            int[] n = new int[5];
            for (int i = 0; i < 5; i++) {
                n[i] = Check.four(text, at + 4 * i);
            }
            due("feed", x.feed(n[0], n[1], n[2], n[3], n[4]), y.feed(n));
        }
    }

    private void due(String call, long got, long want) {
        Check.due(story + " " + call, got, want);
        Check.due(story + " " + call + " trouble", x.trouble(), y.trouble());
    }

    private void open(String text, int n) {
        feed(text);
        story = text + " |";
        due("town", x.town(n), y.town(n));
        due("fault", x.fault(), y.fault());
        due("where", x.where(), y.where());
        due("size 7", x.size(7), y.size(7));
    }

    private void run(int calls) {
        x = new StayHouse();
        y = new Plain();
        story = "new |";
        for (int i = 0; i < 3; i++) {
            call();
        }
        String text = text();
        open(text, text.length());
        for (int i = 0; i < calls; i++) {
            if (random.nextInt(40) == 0) {
                text = random.nextInt(3) == 0 ? spoilt(text()) : text();
                open(text, text.length() - (random.nextInt(9) == 0 ? 1 : 0));
            }
            call();
        }
        for (int b = -1; b < 4; b++) {
            for (int what = -1; what < 7; what++) {
                due("baker", x.baker(b, what), y.baker(b, what));
                due("sort", x.sort(b, what), y.sort(b, what));
                due("size", x.size(b + 4 * what), y.size(b + 4 * what));
            }
        }
    }

    /** One random call on both. */
    private void call() {
        int b = index((int) y.size(0));
        int s = index((int) y.size(1));
        int n = index((int) y.size(8) > 4 ? 3 : 4);
        int law = index(6);
        int step = index((int) y.size(2));
        int other = index((int) y.size(0));
        int kind = random.nextInt(34);
        String said = kind + "(" + b + " " + s + " " + n + " " + law + " " + step + " " + other + ")";
        story = story.length() > 3000 ? story : story + " " + said;
        if (kind < 12) {
            callOfYears(kind, b, s, step, other);
        } else {
            callOfRest(kind, b, s, n, law, step, other);
        }
    }

    private void callOfYears(int kind, int b, int s, int step, int other) {
        int many = random.nextInt(9) == 0 ? random.nextInt(14000) - 2000 : upTo(60);
        int fresh = random.nextInt(3) == 0 ? step : index((int) y.size(2));
        int few = random.nextInt(6) == 0 ? random.nextInt(14) - 1 : 1 + upTo(2);
        int year = index((int) y.size(5) + 1);
        int v = random.nextInt(3) == 0 ? random.nextInt(66000) - 100 : upTo(100);
        story = story + "[" + many + " " + fresh + " " + few + " " + year + " " + v + "]";
        int from = random.nextInt(3) == 0 ? -1 : b;
        int to = random.nextInt(4) == 0 ? -2 : other;
        switch (kind) {
            case 0, 1, 2 -> due("hold", x.hold(b, s, many) ? 1 : 0, y.hold(b, s, many));
            case 3, 4 -> due("ask", x.ask(b, step, fresh) ? 1 : 0, y.ask(b, step, fresh));
            case 5 -> due("choose " + from, x.choose(from, s), y.choose(from, s));
            case 6 -> due("has " + from + " " + to, x.has(from, s, to), y.has(from, s, to));
            case 7 -> due("seed", x.seed(v) ? 1 : 0, y.seed(v));
            case 8, 9 -> due("go", x.go(few), y.go(few));
            case 10 -> due("again", x.again(year) ? 1 : 0, y.again(year));
            default -> due("change", x.change(b, v - 1), y.change(b, v - 1));
        }
        for (int i = -1; i < 4; i++) {
            due("held", x.held(i, s), y.held(i, s));
            due("earned", x.earned(b, i), y.earned(b, i));
            due("earned", x.earned(b, year), y.earned(b, year));
            due("led", Check.led(x, i), y.led(i));
            due("size", x.size(i + 4), y.size(i + 4));
            due("choose", x.choose(i, s), y.choose(i, s));
        }
    }

    private void callOfRest(int kind, int b, int s, int n, int law, int step, int other) {
        switch (kind) {
            case 12, 13, 14 -> {
                due("rest", x.rest(n), y.rest(n));
                for (int i = -1; i < 3; i++) {
                    due("worth", x.worth(i), y.worth(i));
                }
            }
            case 16 -> due("worth", x.worth(b), y.worth(b));
            case 17, 18 -> due("gain", x.gain(b), y.gain(b));
            case 19 -> due("best", x.best(b), y.best(b));
            case 20, 21 -> due("paid", x.paid(s, n, law), y.paid(s, n, law));
            case 22 -> due("leavings", x.leavings(s, n, law), y.leavings(s, n, law));
            case 23 -> due("kindest", x.kindest(s, n), y.kindest(s, n));
            case 24, 25 -> due("promise", x.promise(b, step, n), y.promise(b, step, n));
            case 26 -> due("shape", x.shape(b, other, n), y.shape(b, other, n));
            case 27 -> due("fit", x.fit(b, n), y.fit(b, n));
            case 28, 29 -> due("late", x.late(b, n), y.late(b, n));
            case 30 -> due("edge", x.edge(), y.edge());
            default -> { }
        }
        for (int what = -1; what < 3; what++) {
            due("act", x.act(b, what), y.act(b, what));
            due("lures", x.lures(b, what), y.lures(b, what));
        }
    }

    // ---- texts with faults

    private static final String[] PIECES = {"baker", "sort", "prices", "keep", "costs", "fits", "enters", "new", "worth", "leaves",
        "stays", "near", "far", "one", "two", ";", ",", "0", "5", "9", "10", "99", "100", "101", "199", "200", "999", "1000", "a", "b",
        "z", "abcdefgh", "abcdefghi", "", " ", "  ", "A", "\u0000", "\u00ff", "-", "keep 5", "prices one 5", "baker q"};

    /** A text in which a piece was put, taken away or changed, some times. */
    private String spoilt(String text) {
        String now = text;
        int times = 1 + random.nextInt(2);
        for (int i = 0; i < times; i++) {
            String[] parts = now.split("(?<=[ ;,])|(?=[ ;,])");
            int at = random.nextInt(parts.length);
            String piece = PIECES[random.nextInt(PIECES.length)];
            switch (random.nextInt(4)) {
                case 0 -> parts[at] = piece;
                case 1 -> parts[at] = parts[at] + " " + piece;
                case 2 -> parts[at] = piece + parts[at];
                default -> parts[at] = "";
            }
            now = String.join("", parts);
        }
        return now;
    }

    private String shuffledLines() {
        StringBuilder text = new StringBuilder();
        int lines = 3 + random.nextInt(8);
        for (int i = 0; i < lines; i++) {
            int kind = random.nextInt(6);
            int name = random.nextInt(4) == 0 ? random.nextInt(8) : i;
            text.append(i == 0 ? "" : random.nextInt(3) == 0 ? " ; " : ";");
            text.append(kind < 4 ? line(kind < 2 ? 0 : 1, name) : kind == 4 ? prices() : "keep " + upTo(104));
        }
        return text.toString();
    }

    private void texts(int count) {
        x = new StayHouse();
        y = new Plain();
        story = "texts |";
        for (int i = 0; i < count; i++) {
            String text = random.nextInt(3) == 0 ? shuffledLines() : text();
            text = random.nextInt(4) == 0 ? text : spoilt(text);
            text = text.length() > 700 ? text.substring(0, 700) : text;
            open(text, random.nextInt(5) == 0 ? random.nextInt(text.length() + 30) - 1 : text.length());
            for (int what = 0; what < 9; what++) {
                due("size", x.size(what), y.size(what));
            }
        }
    }
}
