/** The boundary cases of promises 9 to 18: who comes out when, and with whom. */
final class DaysEdges extends Edges {
    private static final String KINDS = "figure plain 10 3 0;figure worn 2 10 3 0;figure twin 8 10 3 0;figure both 2 8 10 3 0;";
    private static final String PAIRS = "figure plain 6 0 0;figure plain 4 1 1;figure plain 10 5 2;figure plain 9 3 3;"
            + "figure plain 60 59 4;figure plain 59 58 5;";
    private static final String[] NO_FIGURE = {"-1", "6", "MIN", "MAX"};
    private static final String[] NO_DAY = {"-1", "END+1", "MIN", "MAX"};

    DaysEdges(Sentences sentences) {
        super(sentences);
    }

    @Override
    void all() {
        outs();
        nexts();
        lasts();
        oftens();
        togethers();
        meetings();
        alls();
        cycles();
        crashes();
        firsts();
        firstsRefused();
    }

    private void outs() {
        of(9, "Whether a FIGURE comes out on a DAY (1, 0).");
        clock("figure plain 2 1 0;figure both 3 59 60 59 8;");
        each(0, "out(0, 0)", "out(0, END)");
        each(1, "out(0, 1)", "out(0, END-1)");
        // 59, 119 and 179, and 59 behind each: the last of these falls 57 days into the next of the rounds of 181
        days(1, 57, 59, 118, 119, 178, 179, 238);

        of(9, "BAD.");
        due("out(0, 0)", BAD);
        clock(PAIRS);
        star(BAD, "out(*, 0)", NO_FIGURE);
        star(BAD, "out(0, *)", NO_DAY);
        clock("figure plain 2 1 0;");
        due("out(1, 1)", BAD);
    }

    private void nexts() {
        of(10, "The first DAY, from DAY t on, on which he comes out.");
        clock(KINDS);
        star(3, "next(0, *)", "0", "3");
        star(13, "next(0, *)", "4", "13");
        due("next(1, 13)", 13);
        due("next(1, 14)", 24);
        star(1, "next(2, *)", "0", "1");
        due("next(2, 2)", 3);
        due("next(3, 0)", 0);
        due("next(3, 1)", 3);
        due("next(3, 14)", 21);
        due("next(3, 22)", 24);
        star(END - 7, "next(0, *)", "END-16", "END-7");

        of(10, "BAD; NONE.");
        due("next(0, 0)", BAD);
        clock(PAIRS);
        star(BAD, "next(*, 0)", NO_FIGURE);
        star(BAD, "next(*, END)", NO_FIGURE);
        star(BAD, "next(0, *)", NO_DAY);
        // END is 4 of 6, 1 of 9 (so that 3 is behind it), 0 of 4
        star(NONE, "next(0, *)", "END-3", "END");
        due("next(0, END-4)", END - 4);
        star(NONE, "next(3, *)", "END-6", "END");
        due("next(3, END-7)", END - 7);
        star(NONE, "next(1, *)", "END-2", "END");
        due("next(1, END-3)", END - 3);
    }

    private void lasts() {
        of(11, "The latest DAY, up to DAY t, on which he came out.");
        clock(KINDS);
        star(3, "last(0, *)", "3", "12");
        due("last(0, 13)", 13);
        star(13, "last(1, *)", "13", "23");
        due("last(1, 24)", 24);
        star(1, "last(2, *)", "1", "2");
        star(0, "last(3, *)", "0", "2");
        star(13, "last(3, *)", "13", "20");
        due("last(3, 21)", 21);
        due("last(0, END)", END - 7);
        // END is 1 of 21
        due("last(3, END)", END - 1);
        due("last(1, END)", END - 9);

        of(11, "BAD; NONE.");
        due("last(0, 0)", BAD);
        clock(PAIRS);
        star(BAD, "last(*, 0)", NO_FIGURE);
        star(BAD, "last(0, *)", NO_DAY);
        due("last(0, 0)", 0);
        star(NONE, "last(4, *)", "0", "58");
        due("last(4, 59)", 59);
        clock(KINDS);
        star(NONE, "last(0, *)", "0", "2");
        star(NONE, "last(1, *)", "0", "2");
        due("last(2, 0)", NONE);
    }

    private void oftens() {
        of(12, "On how many DAYS, from one to another one (no less), he comes out.");
        clock(KINDS + "figure twin 1 2 0 0;");
        each(1, "often(0, 3, 3)", "often(2, 0, 1)", "often(3, 0, 0)", "often(3, 0, 2)", "often(4, END, END)");
        each(0, "often(0, 0, 0)", "often(0, 4, 4)", "often(0, 4, 12)", "often(0, END, END)", "often(3, 1, 2)");
        each(2, "often(0, 3, 13)", "often(2, 0, 10)");
        each(4, "often(1, 0, 44)", "often(3, 0, 20)", "often(1, 4, 45)");
        each(5, "often(1, 0, 45)", "often(1, 3, 45)", "often(3, 0, 21)");
        due("often(0, 0, END)", 100000000000L);
        due("often(4, 0, END)", END + 1);
        // END is 1 of 21: two of a round, and none of the days 0 and 1
        due("often(1, 0, END)", (END - 1) / 21 * 2);
        due("often(3, 0, END)", (END - 1) / 21 * 4 + 1);

        of(12, "BAD.");
        due("often(0, 0, 1)", BAD);
        clock(PAIRS);
        star(BAD, "often(*, 0, 1)", NO_FIGURE);
        star(BAD, "often(0, *, END)", NO_DAY);
        star(BAD, "often(0, 0, *)", NO_DAY);
        each(BAD, "often(0, 1, 0)", "often(0, END, 0)", "often(0, END, END-1)", "often(0, END+1, END+1)", "often(0, -1, -1)");
        due("often(0, 0, 0)", 1);
    }

    private void togethers() {
        of(13, "The first DAY, from DAY t on, on which two FIGURES both come out.");
        clock(PAIRS);
        star(5, "together(1, 2, *)", "0", "5");
        star(25, "together(1, 2, *)", "6", "25");
        star(5, "together(2, 1, *)", "0", "5");
        star(12, "together(0, 3, *)", "0", "12");
        due("together(0, 3, 13)", 30);
        star(3539, "together(4, 5, *)", "0", "3539");
        due("together(5, 4, 3540)", 7079);
        clock(KINDS);
        due("together(2, 3, 0)", 3);
        due("together(2, 3, 4)", 11);
        // 1 of 10 and 0 of 21: day 21
        due("together(2, 3, 14)", 21);

        of(13, "BAD (also alike); NONE.");
        due("together(0, 1, 0)", BAD);
        clock(PAIRS);
        star(BAD, "together(*, *, 0)", "0", "5", "6", "-1");
        star(BAD, "together(*, 1, 0)", NO_FIGURE);
        star(BAD, "together(1, *, 0)", NO_FIGURE);
        star(BAD, "together(1, 2, *)", NO_DAY);
        // by 2 they are never alike
        star(NONE, "together(0, 1, *)", "0", "END");
        // 20 divides END: 5 of 20 is END less 15
        due("together(1, 2, END-15)", END - 15);
        star(NONE, "together(1, 2, *)", "END-14", "END");
    }

    private void meetings() {
        of(14, "On how many DAYS from one to another one (no less) both do.");
        clock(PAIRS);
        each(0, "meetings(0, 1, 0, END)", "meetings(1, 2, 6, 24)", "meetings(1, 2, 0, 0)", "meetings(1, 2, END, END)", "meetings(1, 2, END-14, END)");
        each(1, "meetings(1, 2, 5, 5)", "meetings(2, 1, 0, 5)", "meetings(1, 2, 6, 25)", "meetings(1, 2, END-15, END)", "meetings(4, 5, 0, 3539)");
        each(2, "meetings(1, 2, 5, 25)", "meetings(2, 1, 0, 44)");
        due("meetings(1, 2, 0, END)", 50000000000L);
        // one comes out each day, the other one on 0, 1, 2 and 3 of each 5
        clock("figure twin 1 2 0 0;figure both 2 1 2 0 0;");
        due("meetings(0, 1, 0, 9)", 8);
        due("meetings(0, 1, 0, END)", END / 5 * 4 + 1);

        of(14, "BAD.");
        due("meetings(0, 1, 0, 1)", BAD);
        clock(PAIRS);
        star(BAD, "meetings(*, 1, 0, 1)", NO_FIGURE);
        star(BAD, "meetings(1, *, 0, 1)", NO_FIGURE);
        star(BAD, "meetings(1, 2, *, END)", NO_DAY);
        star(BAD, "meetings(1, 2, 0, *)", NO_DAY);
        each(BAD, "meetings(1, 2, 1, 0)", "meetings(1, 2, END, END-1)");
        // both are two FIGURES, as with together()
        star(BAD, "meetings(*, *, 0, 1)", "0", "5");
    }

    private void alls() {
        of(15, "The first DAY, from DAY t on, on which all of some FIGURES (bits, not 0) come out.");
        clock(PAIRS);
        star(3, "all(8, *)", "0", "3");
        due("all(8, 4)", 12);
        star(58, "all(32, *)", "0", "58");
        star(25, "all(6, *)", "6", "25");
        due("all(9, 0)", 12);
        clock("figure plain 60 59 0;figure plain 59 58 0;figure plain 53 52 0;figure plain 47 46 0;figure plain 43 42 0;figure plain 41 40 0;");
        long product = 60L * 59 * 53 * 47 * 43 * 41;
        due("all(63, 0)", product - 1);
        due("all(63, " + (product - 1) + ")", product - 1);
        due("all(63, " + product + ")", 2 * product - 1);
        clock("figure both 3 1 2 0 0;figure both 3 1 2 1 0;figure both 3 1 2 0 0;figure both 3 1 2 1 0;figure both 3 1 2 0 0;figure both 3 1 2 1 0;");
        // of 7 the one does not come out on 6, the other one not on 0
        due("all(63, 0)", 1);
        due("all(63, 6)", 8);
        due("all(21, 7)", 7);

        of(15, "BAD; NONE.");
        due("all(1, 0)", BAD);
        clock("figure plain 6 0 0;figure plain 4 1 0;");
        star(BAD, "all(*, 0)", "0", "4", "5", "7", "-1", "64", "MIN", "MAX");
        star(BAD, "all(1, *)", NO_DAY);
        star(BAD, "all(0, *)", "0", "END");
        star(NONE, "all(3, *)", "0", "END");
        due("all(1, END-4)", END - 4);
        star(NONE, "all(1, *)", "END-3", "END");
        clock(PAIRS);
        star(BAD, "all(*, 0)", "0", "64", "65", "-1");
        clock("figure plain 60 59 0;figure plain 59 58 0;figure plain 53 52 0;figure plain 47 46 0;figure plain 43 42 0;figure plain 41 40 0;");
        long latest = END / product * product - 1;
        due("all(63, " + latest + ")", latest);
        due("all(63, " + (latest + 1) + ")", NONE);
    }

    private void cycles() {
        of(16, "After how many DAYS some FIGURES (bits, not 0) go on as before: the least number that is a multiple of all ROUNDS.");
        clock("figure plain 2 0 0;figure plain 60 0 0;figure worn 1 2 0 0;figure worn 3 60 0 0;figure plain 9 0 0;figure both 1 5 8 0 0;");
        star(2, "cycle(*)", "1");
        star(60, "cycle(*)", "2", "3", "6", "7");
        star(9, "cycle(*)", "16", "32", "48", "52");
        due("cycle(8)", 181);
        due("cycle(63)", 180 * 181);
        // 181, 178, 175, 169, 172 and 163: 178 and 172 share 2; more than END, as it is no DAY
        clock("figure worn 3 60 0 0;figure worn 3 59 0 0;figure worn 3 58 0 0;figure worn 3 56 0 0;figure worn 3 57 0 0;figure worn 3 54 0 0;");
        due("cycle(63)", 181L * 178 * 175 * 169 * 86 * 163);

        of(16, "BAD.");
        due("cycle(1)", BAD);
        clock("figure plain 6 0 0;figure plain 4 1 0;");
        star(BAD, "cycle(*)", "0", "4", "5", "7", "-1", "64", "MIN", "MAX");
        due("cycle(3)", 12);
    }

    private void crashes() {
        of(17, "FIGURES with whom one CRASHES (bits).");
        clock("figure plain 2 0 0;".repeat(6));
        row("crash(*)", 62, 61, 59, 55, 47, 31);
        clock("figure plain 2 0 0;figure plain 2 1 0;figure plain 2 0 1;figure plain 3 0 0;");
        row("crash(*)", 8, 8, 0, 3);
        clock("figure plain 2 0 0;");
        due("crash(0)", 0);

        of(17, "BAD.");
        due("crash(0)", BAD);
        clock(PAIRS);
        star(BAD, "crash(*)", NO_FIGURE);
        clock("figure plain 2 0 0;figure plain 2 0 0;");
        star(BAD, "crash(*)", "2", "-1");
    }

    private void firsts() {
        of(18, "The first DAY, from DAY t on, on which two who CRASH both come out (what 0), 10 times the lesser one and the other one, of several the first (1).");
        clock("figure plain 2 0 0;figure plain 2 0 1;figure plain 2 0 2;figure plain 2 0 3;figure plain 5 4 4;figure plain 7 6 4;");
        star(34, "first(*, 0)", "0", "34");
        star(45, "first(*, 1)", "0", "34");
        due("first(35, 0)", 69);
        // two pairs on one day, by two doors; three by one
        clock("figure plain 6 0 1;figure plain 4 2 0;figure plain 6 0 1;figure plain 4 2 0;");
        row("first(*, 0)", 0, 2, 2);
        row("first(*, 1)", 2, 13, 13);
        due("first(6, 0)", 6);
        due("first(6, 1)", 2);
        clock("figure plain 5 1 0;figure plain 6 0 0;figure plain 6 0 0;figure plain 6 0 0;");
        due("first(0, 1)", 12);
        due("first(0, 0)", 0);
        // day 6 is 1 of 5: all four
        due("first(1, 0)", 6);
        due("first(1, 1)", 1);
    }

    private void firstsRefused() {
        of(18, "BAD; NONE.");
        each(NONE, "first(0, 0)", "first(END, 1)");
        star(BAD, "first(0, *)", "2", "-1", "MIN", "MAX");
        star(BAD, "first(*, 0)", NO_DAY);
        star(BAD, "first(*, 1)", NO_DAY);
        // both come out, but by two doors, by which one sticks; or by one door, but never both
        clock("figure plain 2 0 0;figure plain 2 0 1;figure plain 2 1 0;stick 0 0 365;");
        each(NONE, "first(0, 0)", "first(0, 1)");
        // END is 4 of 6
        clock("figure plain 6 0 0;figure plain 6 0 0;");
        due("first(END-4, 0)", END - 4);
        star(NONE, "first(*, 0)", "END-3", "END");
        star(NONE, "first(*, 1)", "END-3", "END");
    }
}
