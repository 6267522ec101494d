/** The boundary cases of promises 19 to 23, 35 and 36: years, doors, horses. */
final class DoorsEdges extends Edges {
    private static final String[] NO_DAY = {"-1", "END+1", "MIN", "MAX"};
    private static final String[] NO_COUNT = {"0", "401", "-1", "MIN", "MAX"};

    DoorsEdges(Sentences sentences) {
        super(sentences);
    }

    @Override
    void all() {
        dates();
        days();
        doors();
        clashes();
        clashesBehindTheEnd();
        sticks();
        frights();
        stands();
    }

    private void dates() {
        of(19, "Of a DAY: 0 its YEAR, 1 its day of the year (0 on).");
        row("date(0, *)", 0, 0);
        row("date(365, *)", 0, 365);
        row("date(366, *)", 1, 0);
        row("date(730, *)", 1, 364);
        row("date(731, *)", 2, 0);
        row("date(1460, *)", 3, 364);
        row("date(1461, *)", 4, 0);
        row("date(1826, *)", 4, 365);
        row("date(1827, *)", 5, 0);
        row("date(END, *)", 2737850787L, 48);
        row("date(END-48, *)", 2737850787L, 0);
        // the YEAR ahead of it has 365, as 2737850786 is 2 of 4
        row("date(END-49, *)", 2737850786L, 364);

        of(19, "BAD.");
        star(BAD, "date(*, 0)", NO_DAY);
        star(BAD, "date(*, 1)", NO_DAY);
        star(BAD, "date(0, *)", "2", "-1", "MIN", "MAX");
    }

    private void days() {
        of(20, "The DAY that is day d (0 on) of a YEAR (0 to 9999).");
        due("day(0, 0)", 0);
        due("day(0, 365)", 365);
        due("day(1, 0)", 366);
        due("day(1, 364)", 730);
        due("day(3, 364)", 1460);
        due("day(4, 0)", 1461);
        due("day(4, 365)", 1826);
        due("day(100, 365)", 36890);
        due("day(9996, 365)", 3651404);
        due("day(9999, 0)", 3652135);
        due("day(9999, 364)", 3652499);

        of(20, "BAD: also d 365 of a YEAR that has 365.");
        star(BAD, "day(*, 365)", "1", "2", "3", "5", "9999", "-4", "10000");
        star(BAD, "day(0, *)", "366", "-1", "MIN", "MAX");
        star(BAD, "day(1, *)", "365", "366", "-1", "MIN", "MAX");
        star(BAD, "day(*, 0)", "-1", "10000", "MIN", "MAX");
    }

    private void doors() {
        of(21, "The DOOR by which a FIGURE comes out on a DAY.");
        clock("figure twin 1 2 0 8;figure twin 1 2 0 3;figure plain 2 0 0;stick 8 10 20;");
        star(8, "by(0, *)", "0", "9", "21", "END");
        star(0, "by(0, *)", "10", "20", "376", "386");
        star(8, "by(0, *)", "375", "387");
        star(3, "by(1, *)", "0", "10", "20");
        // a last day that a YEAR of 365 has not
        due("stick(3, 365, 365)", 1);
        star(3, "by(1, *)", "364", "366", "730", "731", "1825", "1827");
        star(4, "by(1, *)", "365", "1826");
        due("stick(0, 0, 0)", 1);
        star(1, "by(2, *)", "0", "366");
        star(0, "by(2, *)", "2", "364", "368");
        due("stick(NONE, 0, 0)", 1);
        due("by(2, 0)", 0);

        of(21, "BAD; NONE: he does not.");
        due("by(0, 0)", BAD);
        clock("figure plain 2 0 8;figure plain 60 59 0;stick 8 0 365;");
        star(NONE, "by(0, *)", "1", "365", "END-1");
        star(NONE, "by(1, *)", "0", "58", "60");
        star(BAD, "by(*, 0)", "2", "-1", "MIN", "MAX");
        star(BAD, "by(*, 1)", "2", "-1", "MIN", "MAX");
        star(BAD, "by(0, *)", NO_DAY);
        star(BAD, "by(1, *)", NO_DAY);
    }

    private void clashes() {
        of(22, "On how many of n DAYS (1 to 400) from DAY t on");
        clock("figure plain 2 0 0;figure plain 2 0 0;");
        due("clashes(0, 1)", 1);
        due("clashes(1, 1)", 0);
        due("clashes(0, 2)", 1);
        due("clashes(1, 2)", 1);
        due("clashes(0, 399)", 200);
        due("clashes(1, 399)", 199);
        due("clashes(0, 400)", 200);

        of(22, "two or more come out by one DOOR (as it STICKS).");
        clock("figure plain 6 0 0;figure plain 6 0 0;figure plain 6 0 0;figure plain 6 1 8;figure plain 6 1 0;figure plain 6 2 0;");
        // three by one door are one day; 8 and 0 are two doors
        due("clashes(0, 1)", 1);
        due("clashes(1, 1)", 0);
        due("clashes(2, 1)", 0);
        due("clashes(0, 12)", 2);
        due("stick(8, 1, 2)", 0);
        due("clashes(1, 1)", 1);
        due("clashes(7, 1)", 0);
        due("clashes(0, 12)", 3);
        // those of one door that sticks stay together
        due("stick(0, 0, 365)", 1);
        due("clashes(0, 1)", 1);
        due("clashes(1, 1)", 0);

        of(22, "BAD.");
        star(BAD, "clashes(0, *)", NO_COUNT);
        star(BAD, "clashes(*, 1)", NO_DAY);
        star(0, "clashes(0, *)", "1", "400");
        clock("figure plain 2 0 0;figure plain 2 0 0;");
        star(BAD, "clashes(0, *)", NO_COUNT);
        star(BAD, "clashes(*, 400)", NO_DAY);
    }

    private void clashesBehindTheEnd() {
        of(22, "(behind END, too)");
        clock("figure plain 2 0 0;figure plain 2 0 0;figure plain 2 0 1;");
        due("clashes(END, 1)", 1);
        due("clashes(END, 2)", 1);
        due("clashes(END, 3)", 2);
        due("clashes(END, 400)", 200);
        due("clashes(END-1, 400)", 200);
        clock("figure plain 2 0 0;figure plain 2 0 1;stick 0 50 50;");
        // END is day 48 of its YEAR, which has 365: day 50 of the next one is odd
        due("clashes(END, 2)", 0);
        due("clashes(END, 3)", 1);
        due("clashes(END, 400)", 1);
    }

    private void sticks() {
        of(23, "A DOOR STICKS from a day of the year to another one (NONE, 0, 0: none does): whether one did (1, 0).");
        due("stick(NONE, 0, 0)", 0);
        due("stick(0, 0, 0)", 0);
        row("rule(*)", 0, 0, 0, 0);
        due("stick(8, 365, 365)", 1);
        row("rule(*)", 0, 8, 365, 365);
        due("stick(4, 0, 365)", 1);
        row("rule(*)", 0, 4, 0, 365);
        due("stick(NONE, 0, 0)", 1);
        row("rule(*)", 0, NONE, NONE, NONE);
        due("stick(NONE, 0, 0)", 0);
        due("stick(1, 2, 3)", 0);

        of(23, "BAD.");
        star(BAD, "stick(*, 0, 0)", "9", "-1", "-2", "-3", "-5", "MIN", "MAX");
        star(BAD, "stick(0, *, 365)", "-1", "366", "MIN", "MAX");
        star(BAD, "stick(0, 0, *)", "-1", "366", "MIN", "MAX");
        star(BAD, "stick(0, 100, *)", "99", "0");
        star(BAD, "stick(NONE, 0, *)", "1", "365", "-1", "-4");
        star(BAD, "stick(NONE, *, 0)", "1", "-1", "-4");
        each(BAD, "stick(NONE, 1, 1)", "stick(NONE, NONE, NONE)");
        row("rule(*)", 0, NONE, NONE, NONE);
        keepsEach(BAD, "stick(9, 0, 0)", "stick(0, 366, 366)", "stick(NONE, 0, 1)");
    }

    private void frights() {
        of(35, "On how many of n DAYS (1 to 400) from DAY t on (behind END, too) there is FRIGHT at a PLACE.");
        clock("figure plain 2 0 0;figure plain 2 0 1;figure plain 3 0 8;");
        row("fright(*, 0, 1)", 1, 1, 1, 0, 0, 0, 0, 1, 1);
        row("fright(*, 1, 1)", 0, 0, 0, 0, 0, 0, 0, 0, 0);
        row("fright(*, 0, 10)", 5, 5, 5, 0, 0, 0, 0, 4, 4);
        row("fright(*, 0, 400)", 200, 200, 200, 0, 0, 0, 0, 134, 134);
        // END is 1 of 3: END and 2, END and 5 .. END and 398
        row("fright(*, END, 400)", 200, 200, 200, 0, 0, 0, 0, 133, 133);
        row("fright(*, END, 2)", 1, 1, 1, 0, 0, 0, 0, 0, 0);
        row("fright(*, END, 3)", 2, 2, 2, 0, 0, 0, 0, 1, 1);
        // day 50 of END's YEAR is END and 2: then the last one comes out of 0
        due("stick(8, 50, 50)", 0);
        row("fright(*, END, 3)", 2, 2, 2, 0, 0, 0, 0, 0, 0);

        of(35, "BAD.");
        star(BAD, "fright(*, 0, 1)", "9", "-1", "MIN", "MAX");
        star(BAD, "fright(0, 0, *)", NO_COUNT);
        star(BAD, "fright(0, *, 1)", NO_DAY);
        star(0, "fright(*, 0, 400)", "0", "8");
        clock("figure plain 2 0 0;reach 3;");
        star(BAD, "fright(*, 0, 1)", "9", "-1", "MIN", "MAX");
        star(BAD, "fright(0, *, 400)", NO_DAY);
    }

    private void stands() {
        of(36, "The PLACE where there is FRIGHT on the fewest of n DAYS, of several the least.");
        star(0, "stand(0, *)", "1", "400");
        clock("figure plain 2 0 0;");
        // 0 and 1 on even days, none on odd ones
        due("stand(0, 1)", 2);
        due("stand(1, 1)", 0);
        due("stand(0, 400)", 2);
        due("stand(END, 400)", 2);
        clock("figure plain 2 0 0;reach 0;");
        due("stand(0, 1)", 1);
        clock("figure plain 2 0 1;figure plain 2 0 4;figure plain 2 0 6;reach 1;");
        due("stand(0, 1)", 8);
        clock("figure plain 2 0 3;figure plain 2 1 6;reach 3;");
        // 0 to 2 on even days, 7 and 8 on odd ones, all others on each
        due("stand(0, 10)", 0);
        due("stand(0, 11)", 7);
        due("stand(1, 11)", 0);
        due("stand(END, 1)", 7);
        due("stand(END, 2)", 0);
        due("stand(END, 399)", 7);
        clock("figure plain 2 0 2;figure plain 2 0 5;reach 2;figure plain 7 0 8;");
        // 8 on days 0 and 7 alone, all others on the seven even ones
        due("stand(0, 14)", 8);
        clock("figure plain 2 0 0;figure plain 2 0 4;figure plain 2 0 8;reach 3;");
        due("stand(0, 1)", 0);

        of(36, "BAD.");
        star(BAD, "stand(0, *)", NO_COUNT);
        star(BAD, "stand(*, 1)", NO_DAY);
        clock("figure plain 2 0 0;");
        star(BAD, "stand(0, *)", NO_COUNT);
        star(BAD, "stand(*, 400)", NO_DAY);
    }
}
