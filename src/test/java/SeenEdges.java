/** The boundary cases of promises 30 to 34: what was seen. */
final class SeenEdges extends Edges {
    private static final String[] NO_FIGURE = {"2", "-1", "MIN", "MAX"};

    SeenEdges(Sentences sentences) {
        super(sentences);
    }

    @Override
    void all() {
        sees();
        forgets();
        errors();
        wheels();
        worn();
    }

    private void sees() {
        of(30, "SEEN: one more: how many there are.");
        clock("figure plain 6 0 0;figure plain 6 0 0;");
        due("see(0, 0, true)", 1);
        due("see(1, 30000, true)", 2);
        due("see(1, 29999, false)", 3);
        // the same once more is one more
        due("see(0, 0, true)", 4);
        due("see(0, 0, false)", 5);
        for (int i = 6; i <= 12; i++) {
            due("see(1, 0, true)", i);
        }
        due("count(1)", 12);
        due("error(0)", 3);
        due("error(1)", 0);

        of(30, "BAD; FULL.");
        due("see(0, 0, true)", BAD);
        clock("figure plain 6 0 0;figure plain 6 0 0;");
        star(BAD, "see(0, *, true)", "-1", "30001", "MIN", "MAX");
        star(BAD, "see(0, *, false)", "-1", "30001", "MIN", "MAX");
        star(BAD, "see(*, 0, true)", NO_FIGURE);
        due("count(1)", 0);
        for (int i = 1; i <= 12; i++) {
            due("see(0, 6, true)", i);
        }
        each(FULL, "see(0, 6, true)", "see(1, 30000, false)");
        each(BAD, "see(0, -1, true)", "see(0, 30001, true)", "see(2, 6, true)", "see(-1, 6, true)");
        due("count(1)", 12);
        due("forget(11)", 12);
        due("see(0, 6, true)", 12);
        due("see(0, 6, true)", FULL);
        keepsEach(BAD, "see(4, 0, true)", "see(0, 30001, true)");
    }

    private void forgets() {
        of(31, "SEEN are the first n alone: how many there were.");
        due("forget(0)", 0);
        clock("figure plain 6 0 0;");
        due("see(0, 6, true)", 1);
        due("see(0, 7, false)", 2);
        due("see(0, 7, true)", 3);
        due("error(0)", 3);
        due("forget(3)", 3);
        due("error(0)", 3);
        due("forget(2)", 3);
        due("error(0)", 0);
        due("count(1)", 2);
        due("forget(0)", 2);
        due("error(0)", 2);
        due("forget(0)", 0);
        for (int i = 1; i <= 12; i++) {
            due("see(0, 6, true)", i);
        }
        due("forget(12)", 12);
        due("forget(0)", 12);
        due("count(1)", 0);

        of(31, "BAD (n above that, too).");
        star(BAD, "forget(*)", "1", "-1", "MIN", "MAX");
        clock("figure plain 6 0 0;");
        due("see(0, 6, true)", 1);
        due("see(0, 12, true)", 2);
        star(BAD, "forget(*)", "3", "-1", "12", "13", "MIN", "MAX");
        due("count(1)", 2);
        due("forget(1)", 2);
        due("forget(2)", BAD);
        due("count(1)", 1);
        keepsEach(BAD, "forget(4)", "forget(-1)");
    }

    private void errors() {
        of(32, "0 he FITS, and not with ONE MORE, 1 with ONE MORE alone, 2 both, 3 neither.");
        clock("figure plain 6 5 0;figure plain 60 0 0;figure twin 1 2 1 0;");
        row("error(*)", 2, 2, 2);
        due("see(0, 29999, true)", 1);
        row("error(*)", 0, 2, 2);
        due("forget(0)", 1);
        // behind TEETH less 1 comes 0
        due("see(0, 30000, true)", 1);
        due("error(0)", 1);
        due("see(0, 1, false)", 2);
        due("error(0)", 1);
        due("see(0, 29999, true)", 3);
        due("error(0)", 3);
        due("forget(0)", 3);
        due("see(0, 29998, false)", 1);
        due("error(0)", 2);
        due("see(1, 1, true)", 2);
        row("error(*)", 2, 1, 2);
        // who comes out each day does so with one more, too
        due("see(2, 30000, true)", 3);
        due("error(2)", 2);
        due("see(2, 0, false)", 4);
        due("error(2)", 3);

        of(32, "BAD.");
        due("error(0)", BAD);
        clock("figure plain 6 5 0;figure plain 6 5 0;");
        star(BAD, "error(*)", NO_FIGURE);
    }

    private void wheels() {
        of(33, "Plain wheels that FIT a FIGURE: how many (what 0), TEETH of the first one (1), its FIRST (2), by TEETH, then FIRST.");
        clock("figure both 3 59 60 59 0;figure plain 6 0 0;");
        row("wheels(0, *)", 1829, 2, 0);
        due("see(0, 59, true)", 1);
        row("wheels(0, *)", 59, 2, 1);
        row("wheels(1, *)", 1829, 2, 0);
        // 2 at 0 and 2 at 1 go, 3 at 0 and 3 at 1 as well
        due("see(1, 0, false)", 2);
        row("wheels(1, *)", 1829 - 59, 2, 1);
        due("see(1, 1, false)", 3);
        row("wheels(1, *)", 1829 - 118, 3, 2);
        // 60 days later, but neither 30, 20 nor 12: 60 teeth alone
        due("see(0, 119, true)", 4);
        row("wheels(0, *)", 11, 2, 1);
        due("see(0, 89, false)", 5);
        due("see(0, 79, false)", 6);
        due("see(0, 71, false)", 7);
        row("wheels(0, *)", 1, 60, 59);

        of(33, "BAD; NONE (1, 2): none.");
        due("wheels(0, 0)", BAD);
        clock("figure plain 6 0 0;figure plain 6 0 0;");
        star(BAD, "wheels(0, *)", "3", "-1", "MIN", "MAX");
        star(BAD, "wheels(*, 0)", NO_FIGURE);
        star(BAD, "wheels(*, 1)", NO_FIGURE);
        due("see(0, 100, true)", 1);
        due("see(0, 101, true)", 2);
        row("wheels(0, *)", 0, NONE, NONE, BAD);
        // 61 teeth would fit, 60 are the most
        due("forget(0)", 2);
        due("see(0, 0, true)", 1);
        due("see(0, 61, true)", 2);
        row("wheels(0, *)", 0, NONE, NONE);
        // as would one tooth, 2 are the fewest
        due("see(1, 0, true)", 3);
        due("see(1, 1, true)", 4);
        row("wheels(1, *)", 0, NONE, NONE);
    }

    private void worn() {
        of(34, "LATE (1 to 3), 0 for not worn, by which a FIGURE would FIT (bits), all else as it is.");
        clock("figure plain 10 3 0;figure worn 1 10 3 0;figure twin 4 10 3 0;figure both 3 4 10 3 0;");
        row("worn(*)", 15, 15, 15, 15);
        // not worn 3, 13, 23, 33; by 1 3, 14, 25, 36; by 2 3, 13, 24, 34; by 3 3, 13, 23, 34
        int[][] fits = {{33, 1}, {14, 2}, {24, 4}, {34, 12}, {23, 9}, {13, 13}, {3, 15}, {4, 0}};
        for (int f = 0; f < 4; f++) {
            for (int[] fit : fits) {
                due("see(" + f + ", " + fit[0] + ", true)", 1);
                due("worn(" + f + ")", fit[1]);
                due("forget(0)", 1);
            }
            // the gap stays as it is: a twin's 7, 17, 27 .., and by 1 7, 18, 29 ..
            due("see(" + f + ", 17, true)", 1);
            due("worn(" + f + ")", f < 2 ? 0 : 13);
            due("forget(0)", 1);
            due("see(" + f + ", 34, false)", 1);
            due("worn(" + f + ")", 3);
            due("forget(0)", 1);
        }
        row("figure(*, 4)", NONE, 1, NONE, 3);
        row("figure(*, 0)", 0, 1, 2, 3);

        of(34, "BAD.");
        due("worn(0)", BAD);
        clock("figure plain 6 0 0;figure plain 6 0 0;");
        star(BAD, "worn(*)", NO_FIGURE);
    }
}
