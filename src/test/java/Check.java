/** What the tests share: counting wrong answers, and feeding a text. */
final class Check {
    private static int wrong = 0;
    private static int asked = 0;

    private Check() {
    }

    static void due(String what, long got, long want) {
        asked++;
        if (got != want) {
            wrong++;
            if (wrong <= 20) {
                System.out.println(what + " answered " + got + ", due is " + want);
            }
        }
    }

    static void due(String what, boolean got, boolean want) {
        due(what, got ? 1 : 0, want ? 1 : 0);
    }

    /** What led(i) answers; NONE if it throws what the document names. */
    static int led(StayHouse x, int i) {
        try {
            return x.led(i);
        } catch (java.util.NoSuchElementException e) {
            return StayHouse.NONE;
        }
    }

    static void end() {
        System.out.println(wrong == 0 ? asked + " answers are as due" : wrong + " of " + asked + " answers are not as due");
        if (wrong != 0) {
            System.exit(1);
        }
    }

    /** Feeds a text, blanks behind it up to twenties. */
    static void feed(StayHouse x, String text) {
        for (int at = 0; at < text.length(); at += 20) {
            x.feed(four(text, at), four(text, at + 4), four(text, at + 8), four(text, at + 12), four(text, at + 16));
        }
    }

    static void feed(Plain y, String text) {
        for (int at = 0; at < text.length(); at += 20) {
            y.feed(four(text, at), four(text, at + 4), four(text, at + 8), four(text, at + 12), four(text, at + 16));
        }
    }

    static int four(String text, int at) {
        int number = 0;
        for (int i = at; i < at + 4; i++) {
            number = number << 8 | (i < text.length() ? text.charAt(i) & 255 : ' ');
        }
        return number;
    }

    static int town(StayHouse x, String text) {
        feed(x, text);
        return x.town(text.length());
    }

    static StayHouse open(String text) {
        StayHouse x = new StayHouse();
        if (town(x, text) < 2) {
            due("fault at " + x.where() + " of " + text, x.fault(), 0);
        }
        return x;
    }
}
