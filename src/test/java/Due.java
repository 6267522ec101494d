/** What the tests share: answers that are due, and texts that come on the tape. */
final class Due {
    private int asked = 0;
    private int wrong = 0;

    void due(String call, long got, long want) {
        asked++;
        if (got != want) {
            wrong++;
            if (wrong <= 50) {
                System.out.println(call + " answered " + got + ", due is " + want);
            }
        }
    }

    int wrong() {
        return wrong;
    }

    void finish(String name) {
        System.out.println(name + ": " + asked + " answers, " + wrong + " not as due");
        if (wrong != 0 || asked == 0) {
            System.exit(1);
        }
    }

    /** Eight bytes of a text from a place on, with blanks behind its end, as feed() wants them. */
    static long eightOf(String text, int at) {
        long v = 0;
        for (int i = 0; i < 8; i++) {
            v = v << 8 | (at + i < text.length() ? text.charAt(at + i) & 255 : ' ');
        }
        return v;
    }

    static void feed(ClockTeeth x, String text) {
        int had = x.count(3);
        for (int at = 0; at < text.length(); at += 8) {
            x.feed(eightOf(text, at));
        }
        x.end(had + text.length());
    }

    static int tell(ClockTeeth x, String text) {
        feed(x, text);
        return x.text();
    }

    static ClockTeeth of(String text) {
        ClockTeeth x = new ClockTeeth();
        if (tell(x, text) < 0) {
            throw new IllegalStateException("a test's own text is not taken: " + text);
        }
        return x;
    }
}
