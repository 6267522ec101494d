/** The boundary cases of the document's terms, but for those of the text. */
final class TermsEdges extends Edges {
    private static final int TERMS = Sentences.TERMS;

    TermsEdges(Sentences sentences) {
        super(sentences);
    }

    @Override
    void all() {
        calls();
        answers();
        refused();
        daysOfAll();
        daysAsAnswers();
        figures();
        teethAndFirst();
        doorLateGap();
        plainAndWorn();
        twinAndBoth();
        rounds();
        years();
        sticks();
        votes();
        crashes();
        seen();
        cuts();
        turns();
        frights();
        sheets();
    }

    private void calls() {
        of(Sentences.WHOLE, "An object is used for at most 512 calls after it has been made;");
        feed("reach 3;");
        due("text()", 1);
        // three calls are behind now; with these there are 511
        for (int i = 0; i < 254; i++) {
            due("feed(" + i + ")", 8);
            due("text()", -10);
        }
        due("rule(4)", 3);
    }

    private void answers() {
        of(TERMS, "Answers: BAD -1 (a number is not as told, there is no such FIGURE, DOOR, VOTE, IMAGE, SHEET), "
                + "STATE -2 (as told), FULL -3, NONE -4 (there is none), the first that fits;");
        same("BAD", ClockTeeth.BAD, -1);
        same("STATE", ClockTeeth.STATE, -2);
        same("FULL", ClockTeeth.FULL, -3);
        same("NONE", ClockTeeth.NONE, -4);
        clock("figure plain 3 2 0;");
        star(BAD, "figure(*, 0)", "1", "-1", "MIN", "MAX");
        star(BAD, "stick(*, 0, 0)", "9", "-1", "MIN", "MAX");
        star(BAD, "vote(*, 0)", "0", "-1", "MIN", "MAX");
        star(BAD, "keep(*)", "2", "-1", "MIN", "MAX");
        star(BAD, "sheet(*, 0, 0)", "4", "-1", "MIN", "MAX");
        star(BAD, "rule(*)", "6", "-1", "MIN", "MAX");
        due("back(0)", STATE);
        due("next(0, END)", NONE);
        // BAD ahead of what would fit, too: STATE, NONE, the faults of the machine
        each(BAD, "back(2)", "next(1, END)", "next(0, END+1)", "first(END, 2)", "sheet(4, 0, -1)", "lay(4, 0, 0)", "read(4, 0, 0, 1)");
        for (int i = 1; i <= 12; i++) {
            due("see(0, 0, true)", i);
        }
        due("see(0, 0, true)", FULL);
        each(BAD, "see(0, 30001, true)", "see(0, -1, true)", "see(1, 0, true)");
        for (int i = 1; i <= 6; i++) {
            due("ask(9, 0, 5, 0, 0)", i);
        }
        due("ask(9, 0, 5, 0, 0)", FULL);
        each(BAD, "ask(8, 0, 5, 0, 0)", "ask(9, 1, 5, 0, 0)", "ask(9, 0, 61, 0, 0)", "ask(9, 0, 5, 5, 0)", "ask(9, 0, 5, 0, 9)");
    }

    private void refused() {
        of(TERMS, "what is refused changes nothing (but THE TAPE, as told).");
        keepsEach(BAD, "end(-1)", "end(17)", "rule(6)", "figure(4, 0)", "figure(0, 7)", "vote(2, 0)", "vote(0, 5)");
        keepsEach(BAD, "out(4, 0)", "next(0, -1)", "last(0, END+1)", "often(0, 5, 4)", "together(0, 0, 0)", "meetings(0, 4, 0, 1)",
                "all(16, 0)", "cycle(0)", "crash(4)", "first(0, 2)");
        keepsEach(BAD, "date(-1, 0)", "day(1, 365)", "by(4, 0)", "clashes(0, 401)", "stick(9, 1, 2)", "stick(0, 2, 1)",
                "stick(0, 1, 366)", "stick(NONE, 0, 1)", "stick(-1, 0, 0)");
        keepsEach(BAD, "cut(0, 2)", "turn(4)", "recut(0, 61, 0)", "recut(0, 1, 0)", "recut(0, 5, 5)", "recut(2, 4, 0)", "recut(4, 5, 0)",
                "mend(2)", "hold(-1)", "hold(3)", "ask(8, 0, 5, 0, 0)", "ask(9, 4, 5, 0, 0)", "ask(9, 0, 5, 5, 0)", "ask(9, 0, 5, 0, 9)");
        keepsEach(BAD, "see(4, 0, true)", "see(0, -1, true)", "see(0, 30001, true)", "forget(-1)", "forget(4)", "error(4)",
                "wheels(0, 3)", "worn(4)", "fright(9, 0, 1)", "stand(0, 401)", "keep(2)", "keep(-1)", "back(2)");
        keepsEach(BAD, "sheet(4, 0, 1)", "sheet(0, 3, 1)", "sheet(0, 1, 41)", "lay(4, 0, 1)", "read(4, 0, 0, 1)", "read(0, 3, 0, 1)",
                "read(0, 1, 0, 13)", "read(0, 1, 0, -1)", "count(5)");
        keeps(STATE, "back(1)");
        keeps(-14, "sheet(0, 1, -1)");
        keepsEach(-12, "lay(0, 6, 1)", "lay(0, -1, 1)", "lay(2, 0, 1)");
        keeps(-11, "lay(3, 0, 1)");
        keeps(-20, "read(0, 1, 1, 1)");
        keeps(-21, "read(0, 1, 0, 2)", repeated("see(0, 6, true)", 8));
        keeps(FULL, "see(0, 6, true)", repeated("see(0, 6, true)", 9));
        keeps(FULL, "ask(9, 0, 5, 0, 0)", repeated("ask(9, 0, 5, 0, 0)", 4));
        keeps(FULL, "feed(0)", repeated("feed(2314885530818453536)", 48));
        refusedText();
    }

    /** The tape is empty then; it is emptied ahead of that here, so that all else must be alike. */
    private void refusedText() {
        Asked one = Picture.rich();
        Asked other = Picture.rich();
        one.ask("end(0)");
        other.ask("end(0)");
        same("text() of a text with a fault", one.tell("figure plain 5 0 0;stick 1 2 3;reach 0;vote 1 0 5 0 0;."), -64);
        same("what it leaves is alike", Picture.of(one).equals(Picture.of(other)) ? 1 : 0, 1);
    }

    private static String[] repeated(String call, int times) {
        String[] calls = new String[times];
        java.util.Arrays.fill(calls, call);
        return calls;
    }

    private void daysOfAll() {
        of(TERMS, "DAYS are 0 to 10 to the 12 (END);");
        clock("figure plain 2 0 0;figure plain 2 0 0;");
        String[] calls = {
            "out(0, *)", "next(0, *)", "last(0, *)", "often(0, *, END)", "often(0, 0, *)", "together(0, 1, *)",
            "meetings(0, 1, *, END)", "meetings(0, 1, 0, *)", "all(3, *)", "first(*, 0)", "first(*, 1)", "date(*, 0)",
            "date(*, 1)", "by(0, *)", "clashes(*, 1)", "fright(0, *, 1)", "stand(*, 1)",
        };
        for (String call : calls) {
            star(BAD, call, "-1", "MIN", "END+1", "MAX");
        }
        each(0, "next(0, 0)", "last(0, 0)", "together(0, 1, 0)", "all(3, 0)", "first(0, 0)", "date(0, 0)", "date(0, 1)", "by(0, 0)", "by(0, END)");
        each(1, "out(0, 0)", "out(0, END)", "often(0, 0, 0)", "often(0, END, END)", "meetings(0, 1, 0, 0)", "meetings(0, 1, END, END)",
                "first(0, 1)", "first(END, 1)", "clashes(0, 1)", "clashes(END, 1)", "fright(0, 0, 1)", "fright(0, END, 1)");
        each(500000000001L, "often(0, 0, END)", "meetings(0, 1, 0, END)");
        each(2, "stand(0, 1)", "stand(END, 1)");
        // 684462696 times four years are END less 1144 days: three years and 48 days more
        due("date(END, 0)", 4 * 684462696L + 3);
        due("date(END, 1)", 48);
    }

    private void daysAsAnswers() {
        of(TERMS, "a DAY behind that as an answer is NONE.");
        clock("figure plain 2 0 0;figure plain 2 0 0;");
        each(END, "next(0, END)", "last(0, END)", "together(0, 1, END)", "all(3, END)", "first(END, 0)");
        // END is 1 of 3, so that they come out on END less 2, and then on the day behind END
        clock("figure plain 3 2 0;figure plain 3 2 0;");
        for (String call : new String[] {"next(0, *)", "together(0, 1, *)", "all(3, *)", "first(*, 0)"}) {
            star(END - 2, call, "END-4", "END-2");
            star(NONE, call, "END-1", "END");
        }
        star(NONE, "first(*, 1)", "END-1", "END");
    }

    private void figures() {
        of(TERMS, "FIGURES (0 to 6, by order): a KIND,");
        due("rule(0)", 0);
        due("figure(0, 0)", BAD);
        text("figure plain 2 0 0;figure plain 3 0 0;figure plain 4 0 0;figure plain 5 0 0;figure plain 6 0 0;figure plain 7 0 0;", 6);
        due("rule(0)", 6);
        row("figure(*, 1)", 2, 3, 4, 5, 6, 7, BAD);
        text("", 0);
        due("rule(0)", 0);
        text("figure plain 5 0 0;figure worn 1 5 0 0;figure twin 1 5 0 0;figure both 1 1 5 0 0;", 4);
        row("figure(*, 0)", 0, 1, 2, 3, BAD);
        fails("figure plain 2 0 0;".repeat(7), 5, 114);
    }

    private void teethAndFirst() {
        of(TERMS, "TEETH (2 to 60),");
        fails("figure plain 0 0 0;", 3, 13);
        fails("figure plain 1 0 0;", 3, 13);
        fails("figure plain 61 0 0;", 3, 13);
        text("figure plain 60 0 0;", 1);
        text("figure plain 2 0 0;", 1);
        star(BAD, "recut(0, *, 0)", "1", "61", "0", "-2", "MIN", "MAX");
        star(BAD, "ask(0, 0, *, 0, 0)", "1", "61", "0", "-2", "MIN", "MAX");
        due("recut(0, 60, 0)", 2);
        due("recut(0, 2, 0)", 60);
        due("ask(0, 0, 2, 0, 0)", 1);
        due("ask(0, 0, 60, 0, 0)", 2);

        of(TERMS, "FIRST (0 to TEETH less 1),");
        fails("figure plain 5 5 0;", 4, 15);
        text("figure plain 60 59 0;", 1);
        text("figure plain 5 4 0;", 1);
        text("figure plain 5 0 0;", 1);
        star(BAD, "recut(0, 5, *)", "5", "-1", "MIN", "MAX");
        star(BAD, "ask(0, 0, 5, *, 0)", "5", "-1", "MIN", "MAX");
        each(5, "recut(0, 5, 4)", "recut(0, 5, 0)");
        due("ask(0, 0, 5, 4, 0)", 1);
        due("ask(0, 0, 5, 0, 0)", 2);
    }

    private void doorLateGap() {
        of(TERMS, "a DOOR (0 to 8),");
        fails("figure plain 5 0 9;", 3, 17);
        text("figure plain 5 0 0;figure plain 5 0 8;", 2);
        row("figure(*, 3)", 0, 8);
        star(BAD, "stick(*, 0, 1)", "9", "-1", "NONE", "MIN", "MAX");
        star(BAD, "ask(0, 0, 5, 0, *)", "9", "-1", "MIN", "MAX");
        due("stick(0, 0, 1)", 0);
        due("stick(8, 0, 1)", 1);
        due("ask(0, 0, 5, 0, 8)", 1);
        due("ask(0, 0, 5, 0, 0)", 2);

        of(TERMS, "LATE (1 to 3; of worn, both),");
        fails("figure worn 0 5 0 0;", 3, 12);
        fails("figure worn 4 5 0 0;", 3, 12);
        fails("figure both 0 1 5 0 0;", 3, 12);
        fails("figure both 4 1 5 0 0;", 3, 12);
        text("figure worn 1 5 0 0;figure worn 3 5 0 0;figure both 1 1 5 0 0;figure both 3 1 5 0 0;figure plain 5 0 0;figure twin 1 5 0 0;", 6);
        row("figure(*, 4)", 1, 3, 1, 3, NONE, NONE);

        of(TERMS, "GAP (1 to TEETH less 1; of twin, both).");
        fails("figure twin 0 5 0 0;", 3, 12);
        fails("figure twin 5 5 0 0;", 4, 14);
        fails("figure both 1 0 5 0 0;", 3, 14);
        fails("figure both 1 5 5 0 0;", 4, 16);
        text("figure twin 1 2 0 0;figure twin 59 60 0 0;figure both 1 1 2 0 0;figure both 1 59 60 0 0;figure plain 5 0 0;figure worn 1 5 0 0;", 6);
        row("figure(*, 5)", 1, 59, 1, 59, NONE, NONE);
        star(BAD, "recut(1, *, 0)", "59", "2");
        star(BAD, "recut(3, *, 0)", "59", "2");
        due("recut(1, 60, 0)", 60);
    }

    private void plainAndWorn() {
        of(TERMS, "KINDS: 0 plain: he comes out on DAYS FIRST, FIRST and TEETH, and so on.");
        clock("figure plain 10 3 0;figure plain 2 1 0;figure plain 60 59 0;figure plain 2 0 0;");
        days(0, 3, 13, 23, 33, 43);
        days(1, 1, 3, 5, 7, 9);
        days(2, 59, 119, 179);
        days(3, 0, 2, 4, 6);
        due("out(0, END-7)", 1);
        due("out(0, END-6)", 0);

        of(TERMS, "1 worn: likewise, but behind each LATE-th time one day later from then on (LATE 2, TEETH 10, FIRST 3: 3, 13, 24, 34, 45 ..).");
        clock("figure worn 2 10 3 0;figure worn 1 2 1 0;figure worn 3 2 0 0;figure worn 3 60 59 0;");
        days(0, 3, 13, 24, 34, 45, 55, 66);
        days(1, 1, 4, 7, 10);
        days(2, 0, 2, 4, 7, 9, 11, 14);
        days(3, 59, 119, 179, 240);
    }

    private void twinAndBoth() {
        of(TERMS, "2 twin: as plain, and GAP DAYS behind each time.");
        clock("figure twin 4 10 3 0;figure twin 1 2 0 0;figure twin 59 60 0 0;figure twin 9 10 0 0;");
        days(0, 3, 7, 13, 17, 23, 27);
        days(1, 0, 1, 2, 3, 4, 5);
        days(2, 0, 59, 60, 119, 120);
        days(3, 0, 9, 10, 19, 20);

        of(TERMS, "3 both: as worn, and GAP DAYS behind each time.");
        clock("figure both 2 4 10 3 0;figure both 1 1 2 0 0;figure both 3 59 60 0 0;");
        days(0, 3, 7, 13, 17, 24, 28, 34, 38, 45, 49);
        days(1, 0, 1, 3, 4, 6, 7);
        days(2, 0, 59, 60, 119, 120, 179, 181, 240);
    }

    private void rounds() {
        of(TERMS, "ROUND of a FIGURE: TEETH; of worn, both: 1 more than LATE times TEETH.");
        clock("figure plain 2 0 0;figure plain 60 0 0;figure worn 1 2 0 0;figure worn 3 60 0 0;figure twin 59 60 0 0;figure both 3 1 2 0 0;");
        row("figure(*, 6)", 2, 60, 3, 181, 60, 7);

        of(TERMS, "(DAY t and ROUND he comes out as on DAY t, from FIRST on; "
                + "what he would do ahead of FIRST he does, too: DAYS are as if it had always been so.)");
        clock("figure twin 8 10 3 0;figure both 2 8 10 3 0;figure both 1 9 10 5 0;figure worn 2 10 9 0;figure plain 10 9 0;");
        // 8 days behind day 7 ahead of 0; 8 days behind day 8 ahead of 0; 9 days behind day 6 ahead of 0; nothing
        days(0, 1, 3, 11, 13);
        days(1, 0, 3, 11, 13, 21, 24, 32, 34);
        days(2, 3, 5, 14, 16, 25, 27);
        days(3, 9, 19, 30, 40);
        days(4, 9, 19);
        // END is 1 of 21: 0 is the day ahead of it; it is 1 of 11: 3 and 5 are END less 9 and less 7
        row("out(1, END-*)", 0, 1, 0, 0, 0, 0, 0, 0, 0, 1);
        row("out(2, END-*)", 0, 0, 0, 0, 0, 0, 0, 1, 0, 1);
    }

    private void years() {
        of(TERMS, "YEARS 0 on have 365 DAYS each, 366 if divided by 4 without rest (0, 4 ..); DAY 0 is the first one (0) of YEAR 0.");
        long[][] dates = {
            {0, 0, 0}, {364, 0, 364}, {365, 0, 365}, {366, 1, 0}, {730, 1, 364}, {731, 2, 0}, {1095, 2, 364}, {1096, 3, 0},
            {1460, 3, 364}, {1461, 4, 0}, {1826, 4, 365}, {1827, 5, 0}, {36525, 100, 0}, {36890, 100, 365}, {36891, 101, 0},
        };
        for (long[] date : dates) {
            due("date(" + date[0] + ", 0)", date[1]);
            due("date(" + date[0] + ", 1)", date[2]);
            due("day(" + date[1] + ", " + date[2] + ")", date[0]);
        }
    }

    private void sticks() {
        of(TERMS, "STICKS: a DOOR, from a day of the year to another one (0 to 365, no less), or none (at first):");
        each(NONE, "rule(1)", "rule(2)", "rule(3)");
        text("stick 0 0 0;", 1);
        each(0, "rule(1)", "rule(2)", "rule(3)");
        text("stick 8 365 365;", 1);
        row("rule(*)", 0, 8, 365, 365);
        text("stick 3 0 365;", 1);
        row("rule(*)", 0, 3, 0, 365);
        fails("stick 9 0 0;", 3, 6);
        fails("stick 0 366 366;", 3, 8);
        fails("stick 0 0 366;", 3, 10);
        fails("stick 0 5 4;", 3, 10);
        star(BAD, "stick(0, *, 365)", "-1", "366", "MIN", "MAX");
        star(BAD, "stick(0, 5, *)", "4", "-1", "366", "MIN", "MAX");
        text("reach 1;", 1);
        each(NONE, "rule(1)", "rule(2)", "rule(3)");
        due("stick(8, 365, 365)", 0);
        due("stick(0, 0, 0)", 1);

        of(TERMS, "FIGURES who would come out of it then come out of the next DOOR (behind 8: 0).");
        clock("figure plain 2 0 8;figure plain 2 0 7;figure plain 2 0 0;stick 8 2 4;");
        each(8, "by(0, 0)", "by(0, 6)", "by(0, 366)", "by(0, 372)");
        // days 2 and 4 of YEAR 0 and of YEAR 1
        each(0, "by(0, 2)", "by(0, 4)", "by(0, 368)", "by(0, 370)", "by(2, 2)");
        due("by(0, 3)", NONE);
        due("by(1, 2)", 7);
        due("stick(7, 0, 365)", 1);
        each(8, "by(1, 0)", "by(0, 0)");
        due("stick(0, 0, 365)", 1);
        due("by(2, 0)", 1);

        of(TERMS, "REACH (0 to 3; 1).");
        due("rule(4)", 1);
        text("reach 0;", 1);
        due("rule(4)", 0);
        text("reach 3;", 1);
        due("rule(4)", 3);
        fails("reach 4;", 3, 6);
        text("", 0);
        due("rule(4)", 1);
    }

    private void votes() {
        of(TERMS, "VOTES (6): a YEAR (0 to 99, no less than that ahead), a FIGURE who goes, TEETH, FIRST, DOOR of the plain one who comes in his place.");
        text("figure plain 5 0 0;vote 0 0 5 0 0;" + "vote 99 0 5 0 0;".repeat(5), 7);
        due("rule(5)", 6);
        due("ask(99, 0, 5, 0, 0)", FULL);
        fails("vote 0 0 5 0 0;".repeat(7), 5, 90);
        fails("vote 100 0 5 0 0;", 3, 5);
        fails("vote 1 0 5 0 0;vote 0 0 5 0 0;", 3, 20);
        text("figure plain 5 0 0;vote 7 0 5 0 0;vote 7 0 5 0 0;", 3);
        each(BAD, "ask(6, 0, 5, 0, 0)", "ask(100, 0, 5, 0, 0)", "ask(-1, 0, 5, 0, 0)", "ask(7, 1, 5, 0, 0)");
        due("ask(7, 0, 5, 0, 0)", 3);
        due("ask(99, 0, 5, 0, 0)", 4);
        text("figure both 2 3 9 1 0;vote 1 0 60 59 8;", 2);
        due("hold(1)", 0);
        long[] plain = {0, 60, 59, 8, NONE, NONE, 60};
        row("figure(0, *)", plain);
    }

    private void crashes() {
        of(TERMS, "TWO CRASH, if there is a DAY on which both come out, and they have one DOOR (STICKS does not matter here).");
        // 6 and 4 share 2: 0 and 2 are alike by it, 0 and 1 are not; the last one has another door
        clock("figure plain 6 0 0;figure plain 4 2 0;figure plain 4 1 0;figure plain 6 0 1;");
        row("crash(*)", 2, 1, 0, 0);
        due("count(0)", 2);
        // two by one door that sticks, two by two doors that become one
        due("stick(0, 0, 365)", 0);
        row("crash(*)", 2, 1, 0, 0);
        clock("figure worn 3 60 59 8;figure worn 3 59 0 8;figure plain 60 59 0;figure plain 59 58 0;");
        // rounds 181 and 178 share nothing: there is a day, however far
        row("crash(*)", 2, 1, 8, 4);
        // the day more of a worn one's round is nobody's: 9 and 19 of 21, not 8, 20 and 0; of both 1 and 3 of 11, not 0
        clock("figure worn 2 10 9 0;figure plain 21 8 0;figure plain 21 20 0;figure plain 21 0 0;figure both 1 2 10 1 1;figure plain 11 0 1;");
        row("crash(*)", 0, 0, 0, 0, 0, 0);
        clock("figure plain 21 19 0;figure plain 21 9 0;figure worn 2 10 9 0;figure plain 11 3 1;figure plain 11 1 1;figure both 1 2 10 1 1;");
        row("crash(*)", 4, 4, 3, 32, 32, 24);
    }

    private void seen() {
        of(TERMS, "SEEN (12): a FIGURE, a DAY (0 to 30000), whether he came out.");
        clock("figure plain 6 0 0;");
        star(BAD, "see(0, *, true)", "-1", "30001", "MIN", "MAX");
        star(BAD, "see(*, 0, true)", "1", "-1", "MIN", "MAX");
        due("see(0, 0, true)", 1);
        due("see(0, 30000, true)", 2);
        for (int i = 3; i <= 12; i++) {
            due("see(0, 1, false)", i);
        }
        each(FULL, "see(0, 0, true)", "see(0, 1, false)");
        due("error(0)", 0);

        of(TERMS, "He FITS, if he does as it was SEEN each time.");
        clock("figure plain 6 0 0;figure plain 6 2 0;");
        due("error(0)", 2);
        due("see(0, 30000, true)", 1);
        due("error(0)", 0);
        due("see(0, 2, false)", 2);
        due("see(1, 30000, true)", 3);
        due("error(0)", 0);
        due("see(0, 6, false)", 4);
        due("error(0)", 3);
        due("forget(3)", 4);
        due("error(0)", 0);

        of(TERMS, "ONE MORE: as if his FIRST were one more (behind TEETH less 1: 0).");
        clock("figure plain 6 5 0;figure plain 6 4 0;figure both 1 1 2 1 0;");
        each(2, "error(0)", "error(1)", "error(2)");
        due("see(0, 0, true)", 1);
        due("see(1, 5, true)", 2);
        // by FIRST 1 he comes out on 1 and 2 of 3, by 0 on 0 and 1 of them, by 2 it would be 2 and 0
        due("see(2, 0, true)", 3);
        due("see(2, 1, true)", 4);
        each(1, "error(0)", "error(1)", "error(2)");
        // behind TEETH less 1 it is 0, which is not TEETH by a worn one's round: 0 of 21 and not 10, 0 of 7 and not 6
        clock("figure worn 2 10 9 0;figure both 1 3 6 5 0;");
        due("see(0, 0, true)", 1);
        due("see(1, 0, true)", 2);
        each(1, "error(0)", "error(1)");

        of(TERMS, "A plain wheel FITS a FIGURE, if he would FIT with it.");
        clock("figure both 2 3 10 9 0;");
        due("wheels(0, 0)", 1829);
        due("see(0, 0, true)", 1);
        due("wheels(0, 0)", 59);
        // those of 2 to 60 that divide 60; then not 30, not 20, not 12
        due("see(0, 60, true)", 2);
        due("wheels(0, 0)", 11);
        due("see(0, 30, false)", 3);
        due("wheels(0, 0)", 4);
        due("see(0, 20, false)", 4);
        due("wheels(0, 0)", 2);
        due("see(0, 12, false)", 5);
        row("wheels(0, *)", 1, 60, 0);
    }

    private void cuts() {
        of(TERMS, "CUT of a FIGURE: TEETH and FIRST such that he CRASHES with nobody (KIND, LATE, GAP, DOOR as they are; GAP less than TEETH):");
        // 6 and 5 share nothing; 5 teeth would not be more than the gap; 10 are the first that share 5
        clock("figure twin 5 6 0 0;figure plain 5 0 0;figure plain 6 0 1;figure both 1 5 6 0 3;figure plain 5 0 3;");
        row("cut(0, *)", 10, 1);
        // round 7: of 9 and 4 teeth rounds 10 and 5, but 4 teeth are no more than the gap; days 1 and 6 are 1 of 5
        row("cut(3, *)", 9, 1);
        row("cut(2, *)", 6, 0);
        // 1 of 7 alone is free, 1 itself is not, nor are 9 and 19: 8, the day more of the worn one's round, is
        clock("figure plain 21 9 0;figure worn 2 10 9 0;figure plain 21 1 0;figure twin 1 7 2 0;figure twin 1 7 4 0;figure twin 1 7 6 0;");
        row("cut(0, *)", 21, 8);
        // 5 of 7 alone is free, and the day more of his own round does not matter
        clock("figure worn 1 6 0 0;figure plain 7 0 0;figure twin 1 7 1 0;figure twin 1 7 3 0;figure plain 7 6 0;");
        row("cut(0, *)", 6, 5);
        // one tooth would do, by a round of 2, but 2 are the fewest: 3 teeth, a round of 4
        clock("figure worn 1 2 0 0;figure plain 2 1 0;");
        row("cut(0, *)", 3, 0);
        // 61 teeth would do, as the other one's round is 61
        clock("figure plain 60 0 0;figure worn 1 60 0 0;");
        row("cut(0, *)", NONE, NONE);

        of(TERMS, "those by which TEETH change least, of several fewer TEETH, then the least FIRST.");
        // 5 and 12 share nothing, 4 and 6 do
        clock("figure plain 5 0 0;figure plain 12 0 0;");
        row("cut(0, *)", 4, 1);
        // 6 and 5 share nothing, 5 do, 7 do not
        clock("figure plain 6 0 0;figure plain 5 0 0;");
        row("cut(0, *)", 5, 1);
        // 15 and 30 share both 3 and 5: 7 more ahead of 8 fewer, then 7 fewer ahead of 8 more
        clock("figure plain 23 0 0;figure plain 3 0 0;figure plain 5 0 0;");
        row("cut(0, *)", 30, 1);
        clock("figure plain 22 0 0;figure plain 3 0 0;figure plain 5 0 0;");
        row("cut(0, *)", 15, 1);
        // who crashes with nobody changes no teeth; the least first by which he does not
        clock("figure plain 6 5 0;figure plain 6 0 0;");
        row("cut(0, *)", 6, 1);
        // the fewest teeth that there are, the most that there are
        clock("figure plain 3 0 0;figure plain 2 0 0;");
        row("cut(0, *)", 2, 1);
        clock("figure plain 2 0 0;figure plain 3 0 0;figure plain 5 0 0;figure twin 1 4 0 0;");
        row("cut(0, *)", 60, 2);
    }

    private void turns() {
        of(TERMS, "TURN: FIRST alone, the fewest DAYS later (modulo TEETH).");
        clock("figure plain 6 3 0;figure plain 6 3 0;figure plain 6 5 1;figure plain 3 2 1;figure plain 9 4 1;");
        // 4 is one later than 3, though 0 would do, too
        each(4, "turn(0)", "turn(1)");
        // 0 comes behind 5; 2 of 3 is taken by the one, 1 of 3 by the other one
        due("turn(2)", 0);
        // who crashes with nobody is turned by no day
        due("turn(4)", 4);
        clock("figure plain 6 4 1;figure plain 3 2 1;figure plain 3 1 1;");
        due("turn(0)", 0);
        clock("figure plain 2 0 0;figure twin 1 2 0 0;");
        due("turn(0)", NONE);
    }

    private void frights() {
        of(TERMS, "FRIGHT at a PLACE (0 to 8) on a DAY: somebody comes out of a DOOR (as it STICKS) no more than REACH away by number "
                + "(8 and 0 are not next to one another).");
        clock("figure plain 2 0 0;figure plain 2 1 8;");
        row("fright(*, 0, 1)", 1, 1, 0, 0, 0, 0, 0, 0, 0, BAD);
        row("fright(*, 1, 1)", 0, 0, 0, 0, 0, 0, 0, 1, 1, BAD);
        star(BAD, "fright(*, 0, 1)", "-1", "MIN", "MAX");
        due("stick(8, 0, 365)", 0);
        row("fright(*, 1, 1)", 1, 1, 0, 0, 0, 0, 0, 0, 0);
        clock("figure plain 2 0 4;reach 0;");
        row("fright(*, 0, 1)", 0, 0, 0, 0, 1, 0, 0, 0, 0);
        clock("figure plain 2 0 4;reach 3;");
        row("fright(*, 0, 1)", 0, 1, 1, 1, 1, 1, 1, 1, 0);
        clock("figure plain 2 0 8;figure plain 2 1 0;reach 3;");
        row("fright(*, 0, 1)", 0, 0, 0, 0, 0, 1, 1, 1, 1);
        row("fright(*, 1, 1)", 1, 1, 1, 1, 0, 0, 0, 0, 0);
    }

    private void sheets() {
        of(TERMS, "SHEETS 0 to 3 are rows of BYTES (lane 0), SHORTS (1), INTS (2), all with a sign, with 0 to 40 CELLS, or nothing (at first).");
        clock("figure plain 6 0 0;");
        row("lay(*, 0, 0)", -11, -11, -11, -11, BAD);
        due("count(4)", NONE);
        star(BAD, "sheet(0, *, 1)", "3", "-1", "MIN", "MAX");
        star(BAD, "sheet(0, 0, *)", "41", "MAX");
        row("sheet(*, 2, 0)", 1, 1, 1, 1, BAD);
        due("count(4)", 0);
        due("sheet(0, 2, 40)", 1);
        due("count(4)", 40);
        due("lay(0, 39, 1)", 1);
        due("lay(0, 40, 1)", -12);
        // a day that a lane holds, then one that is below 0 by its sign
        String[][] holds = {{"127", "128"}, {"30000", "32768"}, {"30000", "-1"}};
        for (int lane = 0; lane < 3; lane++) {
            due("sheet(1, " + lane + ", 3)", 1);
            due("lay(1, 1, " + holds[lane][0] + ")", 1);
            due("read(1, " + lane + ", 0, 1)", 1);
            due("lay(1, 1, " + holds[lane][1] + ")", 1);
            due("read(1, " + lane + ", 0, 1)", -20);
        }

        of(TERMS, "A FAULT is what the machine finds: 1 NULL (nothing), 2 INDEX, 3 CAST (another lane), 4 SIZE (below 0).");
        clock("figure plain 6 0 0;");
        due("lay(0, 0, 0)", -11);
        due("read(0, 2, 0, 1)", 0);
        due("torn()", 1);
        due("sheet(0, 2, 2)", 1);
        each(-12, "lay(0, 2, 0)", "lay(0, -1, 0)");
        due("read(0, 2, 0, 1)", 0);
        due("torn()", 2);
        due("read(0, 1, 0, 1)", 0);
        due("torn()", 3);
        star(-14, "sheet(0, 2, *)", "-1", "MIN");
        due("count(4)", 2);
    }
}
