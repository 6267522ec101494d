/** All that can be asked of an object, as one text: what is refused must leave it. Taking it changes the object. */
final class Picture {
    private static final String TOLD = "figure plain 6 0 0;figure worn 2 10 3 0;figure twin 4 9 1 2;figure both 3 5 6 0 0;"
            + "stick 0 95 110;reach 2;vote 3 1 8 5 0;vote 9 3 10 2 2;";

    private final Asked x;
    private final StringBuilder seen = new StringBuilder();

    private Picture(Asked x) {
        this.x = x;
    }

    /**
     * An object that has something of all: 4 figures, 2 votes, a door that sticks, 3 seen, image 0 with other ones,
     * sheets of 6 shorts, 3 bytes, no int and nothing, the fault INDEX of a read(), 16 bytes on the tape.
     */
    static Asked rich() {
        Asked x = Asked.of(TOLD);
        String[] calls = {
            "see(0, 6, true)", "keep(0)", "see(1, 24, true)", "recut(0, 7, 1)", "stick(3, 5, 6)",
            "sheet(0, 1, 6)", "lay(0, 1, 6)", "lay(0, 2, 1)", "lay(0, 3, 1)", "lay(0, 4, 3)", "lay(0, 5, 1)",
            "sheet(1, 0, 3)", "lay(1, 0, 3)", "sheet(2, 2, 0)", "read(0, 1, 3, 2)",
        };
        for (String call : calls) {
            if (x.ask(call) < 0) {
                throw new IllegalStateException("a test's own call is refused: " + call);
            }
        }
        x.feed("reach 3;stick 1 ");
        return x;
    }

    static String of(Asked x) {
        Picture one = new Picture(x);
        one.add("torn()", "count(0)", "count(1)", "count(2)", "count(3)", "count(4)");
        one.addClock();
        one.addSheets();
        one.add("back(0)");
        one.addClock();
        one.add("back(1)");
        one.addClock();
        one.add("text()", "fault()", "rule(4)");
        return one.seen.toString();
    }

    private void add(String... calls) {
        for (String call : calls) {
            seen.append(call).append(' ').append(x.ask(call)).append('\n');
        }
    }

    private void addClock() {
        for (int what = 0; what < 6; what++) {
            add("rule(" + what + ")");
        }
        for (int f = 0; f < 5; f++) {
            for (int what = 0; what < 6; what++) {
                add("figure(" + f + ", " + what + ")");
            }
            add("error(" + f + ")", "wheels(" + f + ", 0)", "wheels(" + f + ", 2)", "worn(" + f + ")");
        }
        for (int v = 0; v < 3; v++) {
            for (int what = 0; what < 5; what++) {
                add("vote(" + v + ", " + what + ")");
            }
        }
    }

    private void addSheets() {
        for (int k = 0; k < 4; k++) {
            for (int lane = 0; lane < 3; lane++) {
                add("forget(0)", "read(" + k + ", " + lane + ", 0, 12)", "torn()", "error(0)", "error(1)", "wheels(3, 0)");
            }
        }
    }
}
