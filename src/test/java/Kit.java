/** What the tests share: texts onto the tape, and answers held against those that are due. */
final class Kit {
    private final String test;
    private int checks;
    private int wrong;

    Kit(String test) {
        this.test = test;
    }

    void due(String call, long got, long want) {
        checks++;
        if (got != want) {
            wrong++;
            System.out.println(test + ": " + call + " answered " + got + ", due is " + want);
        }
    }

    void due(String call, boolean got, boolean want) {
        due(call, got ? 1 : 0, want ? 1 : 0);
    }

    void finish() {
        System.out.println(test + ": " + checks + " answers, " + wrong + " not as due");
        if (wrong != 0 || checks == 0) {
            System.exit(1);
        }
    }

    /** Feeds a text behind what the tape has, blanks filling up the last twenty bytes, and cuts them off again. */
    static void type(GodWeathers x, String text) {
        int length = 0;
        if (text.isEmpty()) {
            return;
        }
        for (int at = 0; at < text.length(); at += 20) {
            length = x.feed(four(text, at), four(text, at + 4), four(text, at + 8), four(text, at + 12),
                four(text, at + 16));
        }
        x.end(length - (19 - (text.length() - 1) % 20));
    }

    static int tell(GodWeathers x, int sort, String text) {
        return tell(x, sort, -1, text);
    }

    static int tell(GodWeathers x, int sort, int at, String text) {
        x.end(0);
        type(x, text);
        return x.text(sort, at);
    }

    /** A new object with one coast, and a year and a log where they are given. */
    static GodWeathers coast(String text) {
        GodWeathers x = new GodWeathers();
        if (tell(x, 0, text) != 0) {
            throw new IllegalArgumentException("no coast: " + text + " fault " + x.fault(0) + " at " + x.fault(1));
        }
        return x;
    }

    static GodWeathers coastAndYear(String coast, String year) {
        GodWeathers x = coast(coast);
        if (tell(x, 1, year) != 0) {
            throw new IllegalArgumentException("no year: " + year + " fault " + x.fault(0) + " at " + x.fault(1));
        }
        return x;
    }

    static GodWeathers log(String text) {
        GodWeathers x = new GodWeathers();
        if (tell(x, 2, text) != 0) {
            throw new IllegalArgumentException("no log: " + text);
        }
        return x;
    }

    static int bits(int... places) {
        int bits = 0;
        for (int place : places) {
            bits |= 1 << place;
        }
        return bits;
    }

    static String times(int n, String text) {
        return text.repeat(n);
    }

    private static int four(String text, int at) {
        int number = 0;
        for (int i = at; i < at + 4; i++) {
            number = number << 8 | (i < text.length() ? text.charAt(i) & 255 : 32);
        }
        return number;
    }
}
