/** What the tests of boundary cases share: a sentence, then the calls on an object of its own that are due to it. */
abstract class Edges {
    static final int BAD = -1, STATE = -2, FULL = -3, NONE = -4;
    static final long END = 1000000000000L;

    private final Sentences sentences;
    private Asked x = new Asked();

    Edges(Sentences sentences) {
        this.sentences = sentences;
    }

    abstract void all();

    /** What follows is due to this sentence, on a new object. */
    final void of(int promise, String sentence) {
        sentences.of(promise, sentence);
        x = new Asked();
    }

    /** What follows is asked of a new object that was told this text. */
    final void clock(String text) {
        x = Asked.of(text);
    }

    final void use(Asked other) {
        x = other;
    }

    final void due(String call, long want) {
        sentences.due(call, x.ask(call), want);
    }

    final void same(String what, long got, long want) {
        sentences.due(what, got, want);
    }

    /** All of these calls answer alike. */
    final void each(long want, String... calls) {
        for (String call : calls) {
            due(call, want);
        }
    }

    /** A call with * in it, for each of these numbers in its place. */
    final void star(long want, String call, String... numbers) {
        for (String number : numbers) {
            due(call.replace("*", number), want);
        }
    }

    /** A call with * in it, answered by these for 0, 1, 2 and so on in its place. */
    final void row(String call, long... wants) {
        for (int i = 0; i < wants.length; i++) {
            due(call.replace("*", String.valueOf(i)), wants[i]);
        }
    }

    final void feed(String text) {
        x.feed(text);
    }

    final void text(String text, long want) {
        sentences.due("text() of " + text, x.tell(text), want);
    }

    /** A text with a fault: told to an object of its own, which stays as it was, but for the tape. */
    final void fails(String text, int fault, int place) {
        Asked other = Asked.of("figure plain 9 8 7;reach 2;");
        sentences.due("text() of " + text, other.tell(text), -10 - place);
        sentences.due("fault() of " + text, other.ask("fault()"), fault);
        sentences.due("count(3) behind " + text, other.ask("count(3)"), 0);
        sentences.due("figure(0, 1) behind " + text, other.ask("figure(0, 1)"), 9);
        sentences.due("rule(4) behind " + text, other.ask("rule(4)"), 2);
    }

    /** A figure comes out on these days, of those up to the last of them, and on no other one. */
    final void days(int f, int... days) {
        int at = 0;
        for (int t = 0; t <= days[days.length - 1]; t++) {
            boolean is = days[at] == t;
            due("out(" + f + ", " + t + ")", is ? 1 : 0);
            at += is ? 1 : 0;
        }
    }

    /** A call that is refused behind some others leaves all as it is without it. */
    final void keeps(long want, String call, String... ahead) {
        Asked one = Picture.rich();
        Asked other = Picture.rich();
        for (String a : ahead) {
            one.ask(a);
            other.ask(a);
        }
        sentences.due(call, one.ask(call), want);
        String left = Picture.of(one);
        String wanted = Picture.of(other);
        sentences.due("what " + call + " leaves, alike up to", alike(left, wanted), wanted.length());
    }

    private static int alike(String one, String other) {
        int at = 0;
        while (at < one.length() && at < other.length() && one.charAt(at) == other.charAt(at)) {
            at++;
        }
        return at;
    }

    final void keepsEach(long want, String... calls) {
        for (String call : calls) {
            keeps(want, call);
        }
    }
}
