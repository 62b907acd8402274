/** The boundary cases of Terms I and of promises 1 to 5: each at the case itself and on both sides of it. */
public final class TextBoundsTest {
    private static final String A = "baker a costs 2 fits 1 enters 10";
    private static final String B = "baker b costs 4 fits 2 enters 999";
    private static final String C = "baker c costs 99 fits 9 enters 0";
    private static final String S = "sort s new 10 worth 20 leaves 3 stays 50 near";
    private static final String P = "prices two 5,10";
    private static final String K = "keep 50";
    private static final String WHOLE = A + ";" + B + ";" + S + ";" + P + ";" + K;

    public static void main(String[] args) {
        tapeIsFull();
        textAsLongAsTheTape();
        byteByByte();
        everyByteAheadOfAName();
        everyByteBehindTheLastWhole();
        everyByteBetweenPrices();
        everyByteBetweenLines();
        lengthOfNames();
        lengthOfWholes();
        boundsOfWholes();
        pricesRise();
        howManyBakers();
        howManySorts();
        howManyPrices();
        wordsLetterByLetter();
        namesThatAreNone();
        namesToldOnce();
        toldTwice();
        theEndOfForm();
        lacks();
        firstFromTheLeft();
        leastNumberOfOnePlace();
        everyPrefix();
        townOfHowMany();
        Check.end();
    }

    private static String blanks(int n) {
        return " ".repeat(n);
    }

    private static void good(String text) {
        StayHouse x = new StayHouse();
        Check.due("town " + text, Check.town(x, text) >= 2, true);
        Check.due("trouble " + text, x.trouble(), 0);
        Check.due("fault " + text, x.fault(), 0);
        Check.due("where " + text, x.where(), -1);
    }

    private static void bad(String text, int fault, int where) {
        StayHouse x = new StayHouse();
        Check.due("town " + text, Check.town(x, text), -1);
        Check.due("trouble " + text, x.trouble(), 4);
        Check.due("fault " + text, x.fault(), fault);
        Check.due("where " + text, x.where(), where);
        Check.due("no town " + text, x.size(0), 0);
        Check.due("empty tape " + text, x.size(7), 0);
    }

    // ---- the tape

    private static void tapeIsFull() {
        StayHouse x = new StayHouse();
        int blank = 0x20202020;
        for (int i = 1; i <= 34; i++) {
            Check.due("feed", x.feed(blank, blank, blank, blank, blank), 20 * i);
        }
        Check.due("680 bytes", x.size(7), 680);
        Check.due("20 more are 700", x.feed(blank, blank, blank, blank, blank), 700);
        for (int i = 0; i < 3; i++) {
            Check.due("none comes then", x.feed(0x61616161, 0, 0, 0, 0), -1);
            Check.due("700 bytes", x.size(7), 700);
        }
        // Had bytes of the refused ones come, they would be met ahead of the end.
        x.town(700);
        Check.due("only blanks", x.fault(), 1);
        Check.due("up to the end", x.where(), 700);
        Check.due("empty", x.size(7), 0);
        Check.due("from the start again", x.feed(blank, blank, blank, blank, blank), 20);
    }

    private static void textAsLongAsTheTape() {
        for (int n = 698; n <= 700; n++) {
            good(blanks(n - WHOLE.length()) + WHOLE);
            good(WHOLE + blanks(n - WHOLE.length()));
            String wrong = WHOLE.replace("keep 50", "keep 101");
            bad(blanks(n - wrong.length()) + wrong, 4, n - 3);
            bad(blanks(n - K.length()) + K, 6, n);
            bad(blanks(n - 1) + ",", 1, n - 1);
            bad(blanks(n - WHOLE.length() - 1) + WHOLE + ";", 1, n);
        }
    }

    /** Of each number the highest byte first: what is no token, and what is one, is met where it was put. */
    private static void byteByByte() {
        for (int place = 0; place < 20; place++) {
            for (int v : new int[] {0, 44, 127, 128, 200, 255}) {
                bad(blanks(place) + (char) v + blanks(19 - place), 1, place);
                bad(blanks(40 + place) + (char) v, 1, 40 + place);
            }
        }
        StayHouse x = new StayHouse();
        x.feed(0x6b656570, 0x20352020, 0x20202020, 0x20202020, 0x20202020);
        x.town(20);
        Check.due("keep 5 goes as far as it can", x.fault(), 6);
        x.feed(0x7065656b, 0x20352020, 0x20202020, 0x20202020, 0x20202020);
        x.town(20);
        Check.due("peek 5 does not", x.fault(), 1);
    }

    // ---- tokens

    private static boolean isLetter(int v) {
        return v >= 97 && v <= 122;
    }

    private static boolean isDigit(int v) {
        return v >= 48 && v <= 57;
    }

    private static void everyByteAheadOfAName() {
        for (int v = 0; v < 256; v++) {
            String text = WHOLE.replace("baker a", "baker " + (char) v + "q");
            if (v == 32 || isLetter(v)) {
                good(text);
            } else {
                bad(text, 1, 6);
            }
        }
    }

    private static void everyByteBehindTheLastWhole() {
        for (int v = 0; v < 256; v++) {
            String text = WHOLE.replace("keep 50", "keep 5" + (char) v);
            if (v == 32 || isDigit(v)) {
                good(text);
            } else {
                // Behind ; a line is due, so that the end is the first fault.
                bad(text, 1, text.length() - (v == 59 ? 0 : 1));
            }
        }
    }

    private static void everyByteBetweenPrices() {
        String ahead = A + ";" + B + ";" + S + ";" + K + ";prices two 1";
        for (int v = 0; v < 256; v++) {
            String text = ahead + (char) v + "9";
            if (v == 44 || isDigit(v)) {
                StayHouse x = Check.open(text);
                Check.due("steps of " + text, x.size(2), v == 44 ? 2 : 1);
            } else {
                bad(text, 1, ahead.length() + (v == 32 || v == 59 ? 1 : 0));
            }
        }
    }

    private static void everyByteBetweenLines() {
        for (int v = 0; v < 256; v++) {
            String text = K + (char) v + WHOLE.substring(0, WHOLE.length() - K.length() - 1);
            if (v == 59) {
                good(text);
            } else if (isDigit(v)) {
                // 500 and above.
                bad(text, 4, 5);
            } else {
                bad(text, 1, v == 32 ? 8 : 7);
            }
        }
    }

    private static void lengthOfNames() {
        String name = "";
        for (int n = 1; n <= 8; n++) {
            name = name + (char) ('z' - n);
            good(WHOLE.replace("baker a", "baker " + name));
            good(WHOLE.replace("sort s", "sort " + name));
        }
        for (int n = 9; n <= 20; n++) {
            name = name + "q";
            bad(WHOLE.replace("baker a", "baker " + name), 1, 6);
            bad(WHOLE.replace("sort s", "sort " + name), 1, WHOLE.indexOf("sort s") + 5);
        }
        bad("baker  costs", 1, 12);
        good(WHOLE.replace("baker a", "baker aaaaaaaa").replace("baker b", "baker aaaaaaab"));
        good(WHOLE.replace("baker a", "baker z"));
        // What stands together is one: no word ends where a longer one begins.
        bad("bakera costs 2", 1, 0);
        bad("keeper 5", 1, 0);
        bad("ba ker a", 1, 0);
    }

    private static void lengthOfWholes() {
        for (String whole : new String[] {"5", "05", "005", "0", "00", "000"}) {
            good(WHOLE.replace("costs 2", "costs " + whole));
            good(WHOLE.replace("two 5", "two " + whole));
            good(WHOLE.replace("keep 50", "keep " + whole));
        }
        for (String whole : new String[] {"0005", "0000", "1000", "00000", "9999999999", "4294967297"}) {
            bad(WHOLE.replace("costs 2", "costs " + whole), 1, 14);
            bad(WHOLE.replace("two 5", "two " + whole), 1, WHOLE.indexOf("two 5") + 4);
            bad(WHOLE.replace("keep 50", "keep " + whole), 1, WHOLE.indexOf("keep 50") + 5);
        }
        bad(WHOLE.replace("costs 2", "costs 0 2"), 1, 16);
        good(WHOLE.replace("costs 2 fits 1 enters 10", "costs2fits1enters10"));
    }

    // ---- bounds

    /** A text that goes well but for the whole behind that word; what it tells is read back. */
    private static void bounds(String told, int most, int call, int what) {
        String word = told.substring(0, told.indexOf(' ') + 1);
        int place = WHOLE.indexOf(told) + word.length();
        for (int v : new int[] {0, 1, most - 1, most}) {
            String text = WHOLE.replace(told, word + v);
            StayHouse x = Check.open(text);
            int got = call == 0 ? x.baker(0, what) : call == 1 ? x.sort(0, what) : x.size(what);
            Check.due(word + v, got, v);
        }
        for (int v : new int[] {most + 1, most + 2, 999}) {
            if (v > most && v <= 999) {
                bad(WHOLE.replace(told, word + v), 4, place);
            }
        }
        bad(WHOLE.replace(told, word + "1000"), 1, place);
    }

    private static void boundsOfWholes() {
        bounds("costs 2", 99, 0, 0);
        bounds("fits 1", 9, 0, 1);
        bounds("enters 10", 999, 0, 2);
        bounds("new 10", 99, 1, 0);
        bounds("worth 20", 199, 1, 1);
        bounds("leaves 3", 99, 1, 2);
        bounds("stays 50", 100, 1, 3);
        bounds("keep 50", 100, 2, 4);
        Check.due("near", Check.open(WHOLE).sort(0, 4), 0);
        Check.due("far", Check.open(WHOLE.replace("near", "far")).sort(0, 4), 1);
        Check.due("two", Check.open(WHOLE).size(3), 1);
        Check.due("one", Check.open(WHOLE.replace("two", "one")).size(3), 0);
        for (String look : new String[] {"neat", "nea", "nearer", "fa", "fars", "one", "5"}) {
            bad(WHOLE.replace("near", look), 1, WHOLE.indexOf("near"));
            bad(WHOLE.replace("two", look.equals("one") ? "three" : look), 1, WHOLE.indexOf("two"));
        }
    }

    private static void pricesRise() {
        for (int first : new int[] {0, 1, 100, 197, 198}) {
            String text = WHOLE.replace("5,10", first + "," + (first + 1));
            StayHouse x = Check.open(text.replace("worth 20", "worth 199"));
            Check.due("two steps from " + first, x.size(2), 2);
            Check.due("the first price", x.has(-1, 0, 0), 199 - first);
            x.ask(0, 1, 1);
            Check.due("the second price", x.has(-1, 0, 0), 199 - first - 1);
        }
        int at = WHOLE.indexOf("5,10");
        good(WHOLE.replace("5,10", "199"));
        bad(WHOLE.replace("5,10", "200"), 4, at);
        good(WHOLE.replace("5,10", "198,199"));
        bad(WHOLE.replace("5,10", "199,200"), 4, at + 4);
        bad(WHOLE.replace("5,10", "199,199"), 4, at + 4);
        bad(WHOLE.replace("5,10", "0,0"), 4, at + 2);
        bad(WHOLE.replace("5,10", "7,6"), 4, at + 2);
        bad(WHOLE.replace("5,10", "7,7"), 4, at + 2);
        good(WHOLE.replace("5,10", "7,8"));
        bad(WHOLE.replace("5,10", "7,8,8"), 4, at + 4);
        bad(WHOLE.replace("5,10", "7,9,8"), 4, at + 4);
        // Above the one ahead, not only above the first.
        bad(WHOLE.replace("5,10", "1,9,5"), 4, at + 4);
        good(WHOLE.replace("5,10", "7,8,9"));
    }

    private static void howManyBakers() {
        String rest = S + ";" + P + ";" + K;
        bad(rest, 6, rest.length());
        bad(A + ";" + rest, 6, A.length() + 1 + rest.length());
        Check.due("two bakers", Check.open(A + ";" + B + ";" + rest).size(0), 2);
        Check.due("three bakers", Check.open(A + ";" + B + ";" + C + ";" + rest).size(0), 3);
        String three = A + ";" + B + ";" + C + ";";
        bad(three + "baker d costs 1 fits 1 enters 1;" + rest, 5, three.length());
        bad(three + rest + ";  baker", 5, three.length() + rest.length() + 3);
        bad(three + rest + ";bakers", 1, three.length() + rest.length() + 1);
    }

    private static void howManySorts() {
        String rest = A + ";" + B + ";" + P + ";" + K;
        bad(rest, 6, rest.length());
        StringBuilder text = new StringBuilder(rest);
        for (int n = 1; n <= 4; n++) {
            text.append(";").append(S.replace("sort s", "sort s" + "xyzt".charAt(n - 1)).replace("new 10", "new " + n));
            StayHouse x = Check.open(text.toString());
            Check.due("sorts", x.size(1), n);
            Check.due("the last of them", x.sort(n - 1, 0), n);
            Check.due("none behind it", x.sort(n, 0), -1);
        }
        bad(text + "; sort", 5, text.length() + 2);
        bad(text + ";" + S, 5, text.length() + 1);
        bad(text + "; sorts", 1, text.length() + 2);
    }

    private static void howManyPrices() {
        int at = WHOLE.indexOf("5,10");
        bad(WHOLE.replace("5,10", ""), 1, at);
        bad(WHOLE.replace("5,10", ","), 1, at);
        Check.due("one step", Check.open(WHOLE.replace("5,10", "5")).size(2), 1);
        Check.due("two steps", Check.open(WHOLE).size(2), 2);
        Check.due("three steps", Check.open(WHOLE.replace("5,10", "5,6,7")).size(2), 3);
        bad(WHOLE.replace("5,10", "5,6,7,8"), 5, at + 6);
        bad(WHOLE.replace("5,10", "5,6,7 , 8"), 5, at + 8);
        bad(WHOLE.replace("5,10", "5,6,7,8,9"), 5, at + 6);
        // The comma itself is none too many.
        bad(WHOLE.replace("5,10", "5,6,7,"), 1, at + 6);
        bad(WHOLE.replace("5,10", "5,6,7,x"), 1, at + 6);
        for (int steps = 1; steps <= 3; steps++) {
            String told = "5,6,7".substring(0, 2 * steps - 1);
            Check.due("acts with two", Check.open(WHOLE.replace("5,10", told)).size(8), steps * steps);
            Check.due("acts with one", Check.open(WHOLE.replace("two 5,10", "one " + told)).size(8), steps);
        }
    }

    /** Each word of a line with its first, its last or one letter more changed is another word, at its place. */
    private static void wordsLetterByLetter() {
        int from = 0;
        for (String word : WHOLE.split("[ ;,]")) {
            int at = WHOLE.indexOf(word, from);
            from = at + word.length();
            if (word.length() < 3 || !isLetter(word.charAt(0))) {
                continue;
            }
            String ahead = WHOLE.substring(0, at);
            String behind = WHOLE.substring(from);
            bad(ahead + "q" + word.substring(1) + behind, 1, at);
            bad(ahead + word.substring(0, word.length() - 1) + "q" + behind, 1, at);
            bad(ahead + word + "q" + behind, 1, at);
            bad(ahead + word.substring(0, word.length() - 1) + behind, 1, at);
            bad(ahead + word.substring(0, 1) + " " + word.substring(1) + behind, 1, at);
        }
    }

    // ---- names, told once

    private static void namesThatAreNone() {
        for (String word : new String[] {"baker", "sort", "prices", "keep"}) {
            bad(WHOLE.replace("baker a", "baker " + word), 1, 6);
            bad(WHOLE.replace("sort s", "sort " + word), 1, WHOLE.indexOf("sort s") + 5);
            good(WHOLE.replace("baker a", "baker " + word + "x"));
            good(WHOLE.replace("sort s", "sort " + word.substring(1)));
        }
        for (String word : new String[] {"costs", "fits", "enters", "new", "worth", "leaves", "stays", "near", "far", "one", "two"}) {
            good(WHOLE.replace("baker a", "baker " + word));
            good(WHOLE.replace("sort s", "sort " + word));
        }
        bad(WHOLE.replace("baker a", "baker 1"), 1, 6);
        bad(WHOLE.replace("baker a", "baker ;"), 1, 6);
    }

    private static void namesToldOnce() {
        int second = A.length() + 7;
        int sort = WHOLE.indexOf("sort s") + 5;
        bad(WHOLE.replace("baker b", "baker a"), 3, second);
        bad(WHOLE.replace("sort s", "sort a"), 3, sort);
        bad(WHOLE.replace("sort s", "sort b"), 3, sort);
        good(WHOLE.replace("sort s", "sort c"));
        String two = WHOLE + ";" + S.replace("sort s", "sort t");
        good(two);
        bad(two.replace("sort t", "sort s"), 3, WHOLE.length() + 6);
        bad(two.replace("sort t", "sort a"), 3, WHOLE.length() + 6);
        String third = S + ";" + A + ";" + B + ";" + P + ";" + K + ";" + C;
        good(third);
        bad(third.replace("baker c", "baker s"), 3, third.indexOf("baker c") + 6);
        bad(third.replace("baker c", "baker b"), 3, third.indexOf("baker c") + 6);
        // The same but for the last letter, for the first, and for one more.
        String[][] apart = {{"abcdefgh", "abcdefgi"}, {"bcdefgha", "ccdefgha"}, {"ab", "abc"}, {"abc", "ab"}, {"a", "aa"}};
        for (String[] names : apart) {
            good(WHOLE.replace("baker b", "baker " + names[1]).replace("baker a ", "baker " + names[0] + " "));
            String same = WHOLE.replace("baker b", "baker " + names[0]).replace("baker a ", "baker " + names[0] + " ");
            bad(same, 3, same.indexOf("baker", 5) + 6);
        }
        // All seven of them at once, the last like the first.
        StringBuilder all = new StringBuilder(A + ";" + B + ";" + C);
        for (char c = 'p'; c <= 's'; c++) {
            all.append(";").append(S.replace("sort s", "sort " + c));
        }
        good(all + ";" + P + ";" + K);
        bad(all.toString().replace("sort s", "sort a") + ";" + P + ";" + K, 3, all.lastIndexOf("sort s") + 5);
        bad(all.toString().replace("sort s", "sort r") + ";" + P + ";" + K, 3, all.lastIndexOf("sort s") + 5);
    }

    private static void toldTwice() {
        bad(WHOLE + ";" + P, 3, WHOLE.length() + 1);
        bad(WHOLE + ";" + K, 3, WHOLE.length() + 1);
        bad(WHOLE + "; prices", 3, WHOLE.length() + 2);
        bad(WHOLE + "; keep", 3, WHOLE.length() + 2);
        bad(P + ";" + P, 3, P.length() + 1);
        bad(K + ";" + K, 3, K.length() + 1);
        bad(P + ";" + K + ";prices 9", 3, P.length() + K.length() + 2);
        // Words of those letters, but not those words.
        bad(WHOLE + ";price", 1, WHOLE.length() + 1);
        bad(WHOLE + ";keeps", 1, WHOLE.length() + 1);
    }

    // ---- the end

    private static void theEndOfForm() {
        for (int n = 0; n <= 3; n++) {
            bad(blanks(n), 1, n);
            bad(WHOLE + ";" + blanks(n), 1, WHOLE.length() + 1 + n);
            bad("keep" + blanks(n), 1, 4 + n);
            bad("baker" + blanks(n), 1, 5 + n);
            bad("prices two 5," + blanks(n), 1, 13 + n);
            bad("sort s new 1 worth 1 leaves 1 stays 1" + blanks(n), 1, 37 + n);
        }
    }

    private static void lacks() {
        String[] lines = {A, B, S, P, K};
        for (int without = 0; without < lines.length; without++) {
            StringBuilder text = new StringBuilder();
            for (int i = 0; i < lines.length; i++) {
                if (i != without) {
                    text.append(text.length() == 0 ? "" : ";").append(lines[i]);
                }
            }
            bad(text.toString(), 6, text.length());
            bad(text + blanks(3), 6, text.length() + 3);
            good(text + ";" + lines[without]);
        }
        for (String line : lines) {
            bad(line, 6, line.length());
        }
        // At the end of the first n bytes, not of the tape.
        StayHouse x = new StayHouse();
        Check.feed(x, WHOLE);
        x.town(WHOLE.length() - K.length() - 1);
        Check.due("lacks keep", x.fault(), 6);
        Check.due("at n", x.where(), WHOLE.length() - K.length() - 1);
    }

    // ---- which of several

    /** Of any two lines with a fault the first one's is told. */
    private static void firstFromTheLeft() {
        String[] lines = {"baker 7 costs", "sort a", "baker z costs 100", "keep 50", "keep 101", "baker d costs 1 fits 1 enters 1", "?"};
        int[] faults = {1, 3, 4, 3, 3, 5, 1};
        int[] offsets = {6, 5, 14, 0, 0, 0, 0};
        String ahead = A + ";" + B + ";" + P + ";" + K + ";";
        String three = ahead + C + ";";
        for (int i = 0; i < lines.length; i++) {
            String before = i == 5 ? three : ahead;
            bad(before + lines[i], faults[i], before.length() + offsets[i]);
            for (String later : lines) {
                bad(before + lines[i] + ";" + later, faults[i], before.length() + offsets[i]);
            }
        }
        // Within one line.
        bad("baker a costs 100 fits 10", 4, 14);
        bad("baker a costs 99 fits 10 enters x", 4, 22);
        bad("baker a costs x fits 10", 1, 14);
        bad("prices one 5,5,4,3", 4, 13);
        bad("prices one 5,6,7,8,200", 5, 17);
        bad("prices one 200,?", 4, 11);
        bad("prices one 1?,200", 1, 12);
    }

    private static void leastNumberOfOnePlace() {
        // The end lacks something and is no end of a line: 1 ahead of 6.
        bad(K + ";", 1, K.length() + 1);
        bad("keep", 1, 4);
        bad("", 1, 0);
        // A fourth price that does not rise, or is out of bounds: 4 ahead of 5.
        bad("prices one 1,2,3,3", 4, 17);
        bad("prices one 1,2,3,2", 4, 17);
        bad("prices one 1,2,3,200", 4, 17);
        bad("prices one 1,2,3,4", 5, 17);
        bad("prices one 1,2,199,199", 4, 19);
        // A fourth price with too many digits: 1 ahead of 4 and 5.
        bad("prices one 1,2,3,0004", 1, 17);
        // A second one where no line begins: 1 ahead of 3.
        bad("keep 50 keep 50", 1, 8);
        bad("keep keep", 1, 5);
        bad("prices one 5 prices", 1, 13);
        // A fourth baker where no line begins: 1 ahead of 5.
        bad(A + ";" + B + ";" + C + " baker", 1, A.length() + B.length() + C.length() + 3);
        // A name told again that is too long for a name.
        bad(WHOLE.replace("baker b", "baker aaaaaaaaa"), 1, A.length() + 7);
    }

    /** Cut behind each byte; the plain model reads it token by token in its own way. */
    private static void everyPrefix() {
        String text = A + " ;" + B + "; " + S + ";prices two 5 , 10,199;keep 100 ";
        StayHouse x = new StayHouse();
        for (int n = 0; n <= text.length(); n++) {
            Plain y = new Plain();
            Check.feed(y, text);
            if (n % 30 == 0) {
                x = new StayHouse();
            }
            Check.feed(x, text);
            Check.due("first " + n, x.town(n), y.town(n));
            Check.due("fault of the first " + n, x.fault(), y.fault());
            Check.due("where of the first " + n, x.where(), y.where());
        }
    }

    // ---- town(n)

    private static void townOfHowMany() {
        StayHouse x = new StayHouse();
        for (int n : new int[] {-1, 1, 700, Integer.MIN_VALUE, Integer.MAX_VALUE}) {
            Check.due("of an empty tape " + n, x.town(n), -1);
            Check.due("by 2", x.trouble(), 2);
            Check.due("no fault of it", x.fault(), 0);
        }
        Check.due("none of an empty tape", x.town(0), -1);
        Check.due("by 4", x.trouble(), 4);
        Check.feed(x, WHOLE);
        int fed = x.size(7);
        for (int n : new int[] {-1, fed + 1, 701, Integer.MIN_VALUE, Integer.MAX_VALUE}) {
            Check.due("town " + n, x.town(n), -1);
            Check.due("by 2", x.trouble(), 2);
            Check.due("nowhere", x.where(), -1);
            Check.due("the fault of the one before", x.fault(), 1);
            Check.due("the tape stays", x.size(7), fed);
            Check.due("no town", x.size(0), 0);
        }
        Check.due("all of the tape", x.town(fed), 2);
        Check.due("no trouble", x.trouble(), 0);
        Check.due("no fault", x.fault(), 0);
        Check.due("empty", x.size(7), 0);
        // One byte less than the text is another town here: keep 5.
        Check.feed(x, WHOLE);
        Check.due("a byte less", x.town(WHOLE.length() - 1), 2);
        Check.due("keep", x.size(4), 5);
        Check.feed(x, WHOLE);
        Check.due("two bytes less", x.town(WHOLE.length() - 2), -1);
        Check.due("form", x.fault(), 1);
        Check.due("the town stays", x.size(4), 5);
        Check.due("the tape does not", x.size(7), 0);
        Check.due("the next bytes come first", x.feed(0, 0, 0, 0, 0), 20);
    }
}
