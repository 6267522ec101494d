/** The boundary cases of promises 24 to 29: wheels cut and turned, votes. */
final class WheelsEdges extends Edges {
    /** The others leave 0 of 60 alone: odd days, 2 of 4, 1 and 2 of 3, 1 and 2 of 5, 3 and 4 of 5 are theirs. */
    private static final String BUT_ZERO = "figure plain 2 1 0;figure plain 4 2 0;figure twin 1 3 1 0;figure twin 1 5 1 0;figure twin 1 5 3 0;";
    private static final String[] NO_FIGURE = {"2", "-1", "MIN", "MAX"};

    WheelsEdges(Sentences sentences) {
        super(sentences);
    }

    @Override
    void all() {
        cuts();
        turns();
        recuts();
        mends();
        holds();
        asks();
    }

    private void cuts() {
        of(24, "CUT of a FIGURE: TEETH (what 0), FIRST (1).");
        clock("figure plain 6 0 0;figure plain 5 0 0;figure plain 60 59 1;");
        row("cut(0, *)", 5, 1);
        row("cut(1, *)", 4, 1);
        row("cut(2, *)", 60, 0);
        // nothing is changed
        row("figure(0, *)", 0, 6, 0);
        row("figure(1, *)", 0, 5, 0);
        row("figure(2, *)", 0, 60, 59);
        // 2 teeth are no more than the gap
        clock("figure twin 2 3 0 0;figure plain 2 0 0;");
        row("cut(0, *)", 4, 1);
        clock(BUT_ZERO + "figure plain 60 1 0;");
        row("cut(5, *)", 60, 0);
        // worn by 1 with 5 teeth has a round of 6; by 6 teeth it shares 7
        clock("figure worn 1 5 0 0;figure plain 7 0 0;figure worn 3 2 0 1;figure plain 7 0 1;figure plain 7 2 1;figure plain 7 4 1;");
        row("cut(0, *)", 6, 1);
        // 0, 2 and 4 of 7 are taken: from 1 on, 1, 3 and 5 are free
        row("cut(2, *)", 2, 1);

        of(24, "BAD; NONE: there is none.");
        due("cut(0, 0)", BAD);
        clock("figure plain 2 0 0;figure twin 1 2 0 0;");
        star(NONE, "cut(0, *)", "0", "1");
        star(NONE, "cut(1, *)", "0", "1");
        star(BAD, "cut(0, *)", "2", "-1", "MIN", "MAX");
        star(BAD, "cut(*, 0)", NO_FIGURE);
        star(BAD, "cut(*, 1)", NO_FIGURE);
    }

    private void turns() {
        of(25, "TURN of a FIGURE: FIRST.");
        clock("figure plain 60 59 0;figure plain 60 59 0;figure plain 60 58 1;figure plain 30 28 1;figure plain 7 6 2;");
        star(0, "turn(*)", "0", "1");
        due("turn(2)", 59);
        due("turn(4)", 6);
        row("figure(0, *)", 0, 60, 59);
        // 59 days later than 1, then no day later
        clock(BUT_ZERO + "figure plain 60 1 0;");
        due("turn(5)", 0);
        clock(BUT_ZERO + "figure plain 60 0 0;");
        due("turn(5)", 0);
        // his round is 6, of which 0 and 1 are taken; he comes out on two days in a row
        clock("figure both 1 1 5 0 0;figure plain 6 0 0;figure plain 6 1 0;");
        due("turn(0)", 2);

        of(25, "BAD; NONE.");
        due("turn(0)", BAD);
        clock("figure plain 2 0 0;figure twin 1 2 0 0;");
        star(NONE, "turn(*)", "0", "1");
        star(BAD, "turn(*)", NO_FIGURE);
        // FIRST 0 is the last one left, until another one, his own GAP, another one's GAP takes it
        clock("figure plain 2 1 0;figure plain 2 1 0;figure plain 4 0 0;figure twin 1 2 1 1;figure plain 2 1 1;");
        star(NONE, "turn(*)", "0", "3", "4");
        star(NONE, "cut(3, *)", "0", "1");
        // 2 of 3 would be free, but FIRST is less than the 2 TEETH
        clock("figure worn 1 2 0 0;figure twin 1 3 0 0;");
        due("turn(0)", NONE);
        clock("figure plain 6 5 0;figure plain 5 2 0;");
        due("turn(0)", NONE);
    }

    private void recuts() {
        of(26, "TEETH and FIRST of a FIGURE become so: TEETH it had.");
        clock("figure plain 6 5 0;figure both 2 1 7 0 8;");
        due("recut(0, 60, 59)", 6);
        row("figure(0, *)", 0, 60, 59, 0, NONE, NONE, 60);
        due("recut(0, 2, 0)", 60);
        row("figure(0, *)", 0, 2, 0, 0, NONE, NONE, 2);
        due("recut(0, 2, 1)", 2);
        row("figure(0, *)", 0, 2, 1, 0, NONE, NONE, 2);
        due("recut(1, 2, 1)", 7);
        row("figure(1, *)", 3, 2, 1, 8, 2, 1, 5);
        due("recut(1, 60, 0)", 2);
        row("figure(1, *)", 3, 60, 0, 8, 2, 1, 121);

        of(26, "BAD (also GAP not less than TEETH).");
        due("recut(0, 5, 0)", BAD);
        clock("figure twin 5 7 0 0;figure both 2 5 7 0 0;");
        star(BAD, "recut(0, *, 0)", "5", "4", "2", "1", "61", "0", "-1", "MIN", "MAX");
        star(BAD, "recut(1, *, 0)", "5", "2", "61");
        star(BAD, "recut(0, 8, *)", "8", "-1", "MIN", "MAX");
        star(BAD, "recut(*, 8, 0)", NO_FIGURE);
        row("figure(0, *)", 2, 7, 0);
        due("recut(0, 6, 5)", 7);
        due("recut(1, 6, 0)", 7);
        keepsEach(BAD, "recut(2, 4, 0)", "recut(3, 5, 0)", "recut(0, 60, 60)", "recut(4, 5, 0)");
    }

    private void mends() {
        of(27, "FIGURES to be CUT one by one, each who CRASHES, by numbers, as things are then: how many can be (what 0), "
                + "after which how many still CRASH (1), as it would be (nothing is changed).");
        row("mend(*)", 0, 0);
        // who does not crash is not cut, though by CUT his FIRST would change
        clock("figure plain 6 5 0;figure plain 6 0 0;");
        row("mend(*)", 0, 0);
        // behind the first one's CUT the second one crashes no more
        clock("figure plain 2 0 0;figure plain 2 0 0;");
        row("mend(*)", 1, 0);
        row("figure(0, *)", 0, 2, 0);
        due("count(0)", 2);
        row("mend(*)", 1, 0);
        // the one can be (4 teeth at 2), the twin, who has even days and odd ones, can not: ahead of him and behind him
        clock("figure plain 2 0 0;figure twin 1 4 0 0;");
        row("mend(*)", 1, 0);
        clock("figure twin 1 4 0 0;figure plain 2 0 0;");
        row("mend(*)", 1, 0);
        // nothing is changed: neither TEETH nor FIRST of those who would be CUT
        clock("figure plain 6 5 0;figure both 1 4 5 4 0;figure plain 5 4 0;");
        row("mend(*)", 2, 0);
        row("figure(0, *)", 0, 6, 5, 0, NONE, NONE, 6);
        row("figure(1, *)", 3, 5, 4, 0, 1, 4, 6);
        row("figure(2, *)", 0, 5, 4, 0, NONE, NONE, 5);
        // nobody can be: one of them comes out each day
        clock("figure twin 1 2 0 0;figure twin 1 2 0 0;figure plain 7 3 0;");
        row("mend(*)", 0, 3);
        // some can be, by another door
        clock("figure twin 1 2 0 0;figure twin 1 2 0 0;figure plain 3 0 1;figure plain 3 0 1;");
        row("mend(*)", 1, 2);
        // 0 can not be; then 1 can (21 teeth), then 2 can (6 teeth); then 0 crashes no more
        clock("figure plain 6 0 0;figure twin 1 2 0 0;figure plain 7 3 0;");
        row("mend(*)", 2, 0);
        // six alike: each is cut to a first of its own, but for the last one, who is alone then
        clock("figure plain 6 0 0;".repeat(6));
        row("mend(*)", 5, 0);

        of(27, "BAD.");
        star(BAD, "mend(*)", "2", "-1", "MIN", "MAX");
    }

    private void holds() {
        of(28, "The first n VOTES are held, and are told no more (those behind them move up): how many FIGURES CRASH then.");
        due("hold(0)", 0);
        String told = "figure plain 6 0 0;figure both 2 5 7 0 1;figure plain 6 0 5;vote 3 1 8 2 0;vote 3 1 60 59 5;vote 8 0 5 3 5;";
        clock(told);
        due("hold(0)", 0);
        due("rule(5)", 3);
        row("figure(1, *)", 3, 7, 0, 1, 2, 5, 15);
        // 8 at 2 with 6 at 0: by 2 they are alike
        due("hold(1)", 2);
        due("rule(5)", 2);
        row("figure(1, *)", 0, 8, 2, 0, NONE, NONE, 8);
        row("vote(0, *)", 3, 1, 60, 59, 5);
        row("vote(1, *)", 8, 0, 5, 3, 5);
        due("vote(2, 0)", BAD);
        // 60 at 59, 6 at 0, 5 at 3 by door 5: 5 and 6 share nothing, 59 is 5 of 6 and 4 of 5
        due("hold(2)", 2);
        due("rule(5)", 0);
        row("figure(0, *)", 0, 5, 3, 5, NONE, NONE, 5);
        row("figure(1, *)", 0, 60, 59, 5, NONE, NONE, 60);
        row("crash(*)", 4, 0, 1);
        due("hold(0)", 2);
        // all at once, of six; the later one of two who come in one place stays
        clock("figure plain 6 0 0;vote 0 0 2 1 1;vote 0 0 3 1 1;vote 0 0 4 1 1;vote 0 0 5 1 1;vote 0 0 6 1 1;vote 0 0 7 6 8;");
        due("hold(6)", 0);
        row("figure(0, *)", 0, 7, 6, 8);
        due("rule(5)", 0);

        of(28, "BAD (n above how many VOTES there are, too).");
        star(BAD, "hold(*)", "1", "-1", "MIN", "MAX");
        clock(told);
        star(BAD, "hold(*)", "4", "-1", "6", "7", "MIN", "MAX");
        due("rule(5)", 3);
        due("hold(1)", 2);
        due("hold(3)", BAD);
        due("hold(2)", 2);
        due("hold(1)", BAD);
        keepsEach(BAD, "hold(3)", "hold(-1)");
    }

    private void asks() {
        of(29, "A VOTE more (YEAR no less than that ahead): how many there are.");
        clock("figure plain 6 0 0;figure plain 6 0 1;");
        due("ask(0, 0, 2, 0, 0)", 1);
        due("ask(0, 1, 60, 59, 8)", 2);
        due("ask(5, 1, 5, 4, 3)", 3);
        due("ask(5, 0, 5, 4, 3)", 4);
        due("ask(99, 0, 5, 4, 3)", 5);
        due("ask(99, 1, 7, 6, 2)", 6);
        due("rule(5)", 6);
        row("vote(0, *)", 0, 0, 2, 0, 0);
        row("vote(1, *)", 0, 1, 60, 59, 8);
        row("vote(5, *)", 99, 1, 7, 6, 2);
        // 5 at 4 by door 3 twice; then none is ahead, once all are held
        due("hold(5)", 2);
        due("ask(98, 0, 5, 0, 0)", BAD);
        due("hold(1)", 0);
        due("ask(0, 0, 5, 0, 0)", 1);

        of(29, "BAD; FULL.");
        due("ask(0, 0, 5, 0, 0)", BAD);
        clock("figure plain 6 0 0;");
        star(BAD, "ask(*, 0, 5, 0, 0)", "100", "-1", "MIN", "MAX");
        clock("figure plain 6 0 0;figure plain 6 0 1;vote 5 0 5 0 0;");
        star(BAD, "ask(*, 0, 5, 0, 0)", "4", "0", "100", "-1", "MIN", "MAX");
        star(BAD, "ask(5, *, 5, 0, 0)", NO_FIGURE);
        star(BAD, "ask(5, 0, *, 0, 0)", "1", "61", "0", "-1", "MIN", "MAX");
        star(BAD, "ask(5, 0, 5, *, 0)", "5", "-1", "MIN", "MAX");
        star(BAD, "ask(5, 0, 5, 0, *)", "9", "-1", "MIN", "MAX");
        due("rule(5)", 1);
        for (int i = 2; i <= 6; i++) {
            due("ask(5, 0, 5, 0, 0)", i);
        }
        star(FULL, "ask(*, 0, 5, 0, 0)", "5", "99");
        each(BAD, "ask(4, 0, 5, 0, 0)", "ask(5, 2, 5, 0, 0)", "ask(5, 0, 61, 0, 0)", "ask(5, 0, 5, 5, 0)", "ask(5, 0, 5, 0, 9)");
        due("rule(5)", 6);
        due("hold(1)", 0);
        due("ask(5, 0, 5, 0, 0)", 6);
        keepsEach(BAD, "ask(8, 0, 5, 0, 0)", "ask(9, 4, 5, 0, 0)");
    }
}
