/** The boundary cases of promises 37 to 43: images, sheets. */
final class SheetsEdges extends Edges {
    private static final String[] NO_IMAGE = {"2", "-1", "MIN", "MAX"};
    private static final String[] NO_SHEET = {"4", "-1", "MIN", "MAX"};
    private static final String[] NO_LANE = {"3", "-1", "MIN", "MAX"};

    SheetsEdges(Sentences sentences) {
        super(sentences);
    }

    @Override
    void all() {
        keepImages();
        backs();
        newSheets();
        lays();
        reads();
        readsTorn();
        readsRefused();
        torns();
        counts();
    }

    private void keepImages() {
        of(37, "IMAGE k (0, 1) is FIGURES, VOTES, STICKS, what was SEEN: whether there was one (1, 0).");
        due("keep(0)", 0);
        due("keep(0)", 1);
        due("keep(1)", 0);
        due("keep(1)", 1);
        due("count(2)", 2);
        clock("figure plain 6 0 0;vote 1 0 5 0 0;stick 1 2 3;");
        due("see(0, 6, true)", 1);
        due("keep(0)", 0);
        // an image is as it was kept, whatever comes then
        due("recut(0, 7, 6)", 6);
        due("ask(2, 0, 5, 0, 0)", 2);
        due("stick(NONE, 0, 0)", 1);
        due("see(0, 13, true)", 2);
        due("keep(1)", 0);
        due("back(0)", 1);
        row("rule(*)", 1, 1, 2, 3, 1, 1);
        row("figure(0, *)", 0, 6, 0);
        due("count(1)", 1);
        due("error(0)", 0);
        due("back(1)", 1);
        row("rule(*)", 1, NONE, NONE, NONE, 1, 2);
        row("figure(0, *)", 0, 7, 6);
        due("count(1)", 2);
        // what was SEEN is that of the image, each of them, though others are as many
        due("forget(0)", 2);
        due("see(0, 1, true)", 1);
        due("see(0, 2, true)", 2);
        due("error(0)", 3);
        due("back(0)", 1);
        due("error(0)", 0);
        due("see(0, 3, true)", 2);
        due("error(0)", 3);
        due("back(1)", 1);
        row("wheels(0, *)", 1, 7, 6);
        // one that is kept again is as it is now
        due("keep(0)", 1);
        due("forget(0)", 2);
        due("back(0)", 1);
        row("figure(0, *)", 0, 7, 6);
        due("count(1)", 2);

        of(37, "BAD.");
        star(BAD, "keep(*)", NO_IMAGE);
        due("count(2)", 0);
        keepsEach(BAD, "keep(2)", "keep(-1)");
    }

    private void backs() {
        of(38, "All is as IMAGE k: how many FIGURES.");
        due("keep(1)", 0);
        due("back(1)", 0);
        use(Picture.rich());
        due("back(0)", 4);
        row("rule(*)", 4, 0, 95, 110, 2, 2);
        row("figure(0, *)", 0, 6, 0);
        due("count(1)", 1);
        // the image stays, and what is no part of it
        due("count(2)", 1);
        due("count(3)", 16);
        due("count(4)", 6);
        due("torn()", 2);
        // 8 at 5 is odd, 6 at 0 even; the twins' 9 and 10 share nothing
        due("hold(2)", 2);
        due("forget(0)", 1);
        due("back(0)", 4);
        row("figure(1, *)", 1, 10, 3, 0, 2, NONE, 21);
        row("figure(3, *)", 3, 6, 0, 0, 3, 5, 19);
        due("rule(5)", 2);
        due("count(1)", 1);
        clock("figure plain 2 0 0;".repeat(6));
        due("keep(0)", 0);
        due("back(0)", 6);
        // twelve SEEN, of which the last one does not fit
        for (int i = 1; i <= 12; i++) {
            due("see(0, " + (i < 12 ? 0 : 1) + ", true)", i);
        }
        due("keep(0)", 1);
        due("forget(11)", 12);
        due("see(0, 2, true)", 12);
        due("error(0)", 0);
        due("back(0)", 6);
        due("error(0)", 3);
        due("forget(11)", 12);
        due("error(0)", 0);

        of(38, "BAD; STATE: there is none.");
        star(STATE, "back(*)", "0", "1");
        star(BAD, "back(*)", NO_IMAGE);
        clock("figure plain 6 0 0;");
        due("keep(0)", 0);
        due("back(1)", STATE);
        due("back(0)", 1);
        text("reach 1;", 1);
        star(STATE, "back(*)", "0", "1");
        keeps(STATE, "back(1)");
        keeps(BAD, "back(2)");
    }

    private void newSheets() {
        of(39, "A SHEET is a new row of CELLS 0: 1.");
        clock("figure plain 6 0 0;");
        row("sheet(*, 0, 3)", 1, 1, 1, 1);
        due("count(4)", 3);
        due("sheet(0, 1, 0)", 1);
        due("count(4)", 0);
        due("sheet(0, 2, 40)", 1);
        due("count(4)", 40);
        // what was laid is gone; nothing of it comes again with a longer row
        for (int i = 0; i < 6; i++) {
            due("lay(0, " + i + ", 99999)", 1);
        }
        due("sheet(0, 2, 3)", 1);
        due("read(0, 2, 0, 1)", 1);
        due("sheet(0, 2, 6)", 1);
        due("read(0, 2, 0, 2)", 2);
        // another lane may be told, then the one that it had is CAST
        due("sheet(0, 0, 3)", 1);
        due("read(0, 2, 0, 1)", 0);
        due("torn()", 3);

        of(39, "BAD: also n above 40;");
        star(BAD, "sheet(0, 0, *)", "41", "MAX");
        star(BAD, "sheet(*, 0, 1)", NO_SHEET);
        star(BAD, "sheet(0, *, 1)", NO_LANE);
        due("count(4)", NONE);
        keepsEach(BAD, "sheet(0, 1, 41)", "sheet(4, 0, 1)", "sheet(0, 3, 1)");

        of(39, "-14 (SIZE): n below 0.");
        star(-14, "sheet(0, 0, *)", "-1", "-40", "MIN");
        star(BAD, "sheet(*, 0, -1)", NO_SHEET);
        star(BAD, "sheet(0, *, -1)", NO_LANE);
        due("count(4)", NONE);
        due("lay(0, 0, 0)", -11);
        keeps(-14, "sheet(0, 1, -1)");
    }

    private void lays() {
        of(40, "CELL i of a SHEET becomes v (its lowest bits): 1.");
        clock("figure plain 6 0 0;figure plain 6 0 0;");
        // what comes of 256 and 1, of 65536 and 1, of both with a sign, as a FIGURE: 1 or none
        String[] numbers = {"1", "257", "65537", "-255", "-65535", "MIN+1", "MAX"};
        int[] lanesWithOne = {3, 1, 2, 1, 2, 2, 0};
        for (int i = 0; i < numbers.length; i++) {
            for (int lane = 0; lane < 3; lane++) {
                due("sheet(3, " + lane + ", 40)", 1);
                due("lay(3, 37, " + numbers[i] + ")", 1);
                due("read(3, " + lane + ", 37, 1)", lane < lanesWithOne[i] ? 1 : -20);
            }
        }
        due("count(1)", 11);
        row("error(*)", 2, 1);

        of(40, "BAD: k;");
        star(BAD, "lay(*, 0, 0)", NO_SHEET);
        star(BAD, "lay(*, -1, 0)", NO_SHEET);
        keepsEach(BAD, "lay(4, 0, 1)", "lay(-1, 0, 1)");

        of(40, "-10 less the FAULT: NULL, INDEX.");
        star(-11, "lay(0, *, 0)", "0", "-1", "40", "MIN", "MAX");
        due("sheet(0, 0, 0)", 1);
        star(-12, "lay(0, *, 0)", "0", "-1", "MIN", "MAX");
        due("sheet(0, 0, 40)", 1);
        star(-12, "lay(0, *, 0)", "40", "-1", "MIN", "MAX");
        star(1, "lay(0, *, 0)", "0", "39");
        due("sheet(0, 0, 1)", 1);
        star(-12, "lay(0, *, 0)", "1", "39");
        due("lay(1, 0, 0)", -11);
        keepsEach(-12, "lay(0, 6, 1)", "lay(0, -1, 1)");
    }

    private void reads() {
        of(41, "n (0 to 12) see()s (FIGURE, DAY, 1 or 0) are read of a SHEET taken as of a lane, three CELLS each from CELL f on: how many came.");
        clock("figure plain 6 0 0;figure plain 6 1 0;");
        due("sheet(0, 2, 40)", 1);
        int[] cells = {9, 0, 30000, 1, 1, 7, 1, 0, 0, 0, 1, 2, 0};
        for (int i = 0; i < cells.length; i++) {
            due("lay(0, " + i + ", " + cells[i] + ")", 1);
        }
        due("read(0, 2, 1, 0)", 0);
        due("read(0, 2, 1, 1)", 1);
        row("error(*)", 0, 2);
        due("read(0, 2, 4, 1)", 1);
        row("error(*)", 0, 0);
        due("forget(0)", 2);
        due("read(0, 2, 1, 4)", 4);
        due("torn()", 0);
        due("count(1)", 4);
        // the third says that 0 was not out on day 0; the fourth that 1 was not on day 2, as he is not
        row("error(*)", 3, 0);
        due("forget(0)", 4);
        // the last three cells; all that twelve may have
        due("read(0, 2, 37, 1)", 1);
        due("forget(0)", 1);
        due("read(0, 2, 4, 12)", 12);
        due("torn()", 0);
        due("count(1)", 12);

        of(41, "of n 0: 0, no FAULT, whatever the SHEET is).");
        due("read(0, 0, 0, 1)", 0);
        due("torn()", 1);
        star(0, "read(0, 0, *, 0)", "0", "-1", "40", "MIN", "MAX");
        due("torn()", 0);
        due("sheet(0, 1, 2)", 1);
        due("read(0, 0, 0, 1)", 0);
        due("torn()", 3);
        due("read(0, 0, 0, 0)", 0);
        due("torn()", 0);
        due("read(0, 1, 0, 1)", 0);
        due("torn()", 2);
        due("read(0, 1, 99, 0)", 0);
        due("torn()", 0);
    }

    private void readsTorn() {
        of(41, "What the machine refuses: those that were whole ahead come (its FAULT is asked by torn();");
        clock("figure plain 6 0 0;");
        due("read(0, 1, 0, 12)", 0);
        due("torn()", 1);
        due("sheet(0, 1, 8)", 1);
        due("read(0, 2, 0, 12)", 0);
        due("torn()", 3);
        due("count(1)", 0);
        due("read(0, 1, 0, 12)", 2);
        due("torn()", 2);
        due("count(1)", 2);
        // a third that is not whole is no see(), whatever stands in its two cells
        due("lay(0, 6, 77)", 1);
        due("lay(0, 7, -1)", 1);
        due("read(0, 1, 0, 3)", 2);
        due("torn()", 2);
        due("read(0, 1, 6, 1)", 0);
        due("torn()", 2);
        star(0, "read(0, 1, *, 1)", "8", "7", "-1", "-3", "40", "MIN", "MAX");
        star(0, "read(0, 1, *, 12)", "MAX-1", "MAX-2", "MIN+1", "-2");
        due("torn()", 2);
        due("read(0, 1, 5, 1)", -20);
        due("read(0, 1, 2, 1)", 1);
        due("count(1)", 5);
        // another lane is found ahead of a cell that there is not, nothing ahead of both
        due("read(0, 0, -1, 1)", 0);
        due("torn()", 3);
        due("read(1, 0, -1, 1)", 0);
        due("torn()", 1);
        due("sheet(1, 1, 0)", 1);
        due("read(1, 2, 0, 1)", 0);
        due("torn()", 3);
        due("read(1, 1, 0, 1)", 0);
        due("torn()", 2);
        // 11 of 40 from 5 on, 13 from 0 on, of which no more than 12 may be wanted
        due("forget(0)", 5);
        due("sheet(2, 0, 40)", 1);
        due("read(2, 0, 5, 12)", 11);
        due("torn()", 2);
        due("forget(0)", 11);
        due("read(2, 0, 0, 12)", 12);
        due("torn()", 0);
    }

    private void readsRefused() {
        of(41, "BAD: k, lane, n;");
        star(BAD, "read(*, 0, 0, 0)", NO_SHEET);
        star(BAD, "read(0, *, 0, 0)", NO_LANE);
        star(BAD, "read(0, 0, 0, *)", "13", "-1", "MIN", "MAX");
        due("torn()", 0);
        keepsEach(BAD, "read(4, 1, 0, 1)", "read(0, 3, 0, 1)", "read(0, 1, 0, 13)", "read(0, 1, 0, -1)");

        of(41, "-20 less i (from 0 on): the i-th, whole, is refused by see() (in whichever way), or its third CELL is not 0 or 1: "
                + "then none came; the first met.");
        clock("figure plain 6 0 0;figure plain 6 0 0;");
        due("sheet(0, 2, 40)", 1);
        star(12, "read(0, 2, 0, *)", "12");
        due("forget(0)", 12);
        // cell 33 on is the 12th one: no such FIGURE, no such DAY, neither 0 nor 1
        String[][] wrong = {{"33", "2", "1"}, {"33", "-1", "0"}, {"34", "30001", "30000"}, {"34", "-1", "0"}, {"35", "2", "1"}, {"35", "-1", "0"}};
        for (String[] w : wrong) {
            due("lay(0, " + w[0] + ", " + w[1] + ")", 1);
            due("read(0, 2, 0, 12)", -31);
            due("count(1)", 0);
            due("read(0, 2, 33, 1)", -20);
            due("lay(0, " + w[0] + ", " + w[2] + ")", 1);
            due("read(0, 2, 33, 1)", 1);
            due("forget(0)", 1);
        }
        // FULL: seven there are, so that the 6th of six is one too many
        due("read(0, 2, 0, 7)", 7);
        due("read(0, 2, 0, 6)", -25);
        due("count(1)", 7);
        due("read(0, 2, 0, 5)", 5);
        due("read(0, 2, 0, 1)", -20);
        due("count(1)", 12);
        // the first met: one that is refused ahead of what the machine refuses, and the other way round
        due("forget(10)", 12);
        due("sheet(1, 0, 8)", 1);
        due("read(1, 0, 0, 12)", 2);
        due("torn()", 2);
        due("forget(11)", 12);
        due("read(1, 0, 0, 12)", -21);
        due("count(1)", 11);
        due("lay(1, 2, 2)", 1);
        due("read(1, 0, 0, 12)", -20);
        due("lay(1, 5, 3)", 1);
        due("read(1, 0, 0, 2)", -20);
        keeps(-20, "read(0, 1, 1, 1)");
    }

    private void torns() {
        of(42, "The FAULT of the latest read() that answered 0 or more; 0 (one that is refused leaves it).");
        due("torn()", 0);
        clock("figure plain 6 0 0;");
        due("read(0, 0, 0, 1)", 0);
        due("torn()", 1);
        each(BAD, "read(4, 0, 0, 0)", "read(0, 3, 0, 0)", "read(0, 0, 0, 13)");
        due("torn()", 1);
        due("sheet(0, 0, 4)", 1);
        due("lay(0, 9, 9)", -12);
        due("sheet(0, 0, -1)", -14);
        due("torn()", 1);
        due("lay(0, 0, 9)", 1);
        due("read(0, 0, 0, 1)", -20);
        due("torn()", 1);
        due("read(0, 0, 1, 2)", 1);
        due("torn()", 2);
        due("read(0, 0, 0, 1)", -20);
        due("torn()", 2);
        due("read(0, 1, 0, 1)", 0);
        due("torn()", 3);
        text("figure plain 6 0 0;", 1);
        due("keep(0)", 0);
        due("back(0)", 1);
        due("torn()", 3);
        due("read(0, 0, 1, 1)", 1);
        due("torn()", 0);
        due("read(0, 0, 0, 1)", -20);
        due("torn()", 0);
        due("read(1, 0, 0, 1)", 0);
        due("torn()", 1);
        due("read(1, 0, 0, 0)", 0);
        due("torn()", 0);
    }

    private void counts() {
        of(43, "How many: 0 FIGURES who CRASH, 1 SEEN, 2 IMAGES, 3 bytes on THE TAPE, 4 CELLS of SHEET 0 (NONE: nothing).");
        row("count(*)", 0, 0, 0, 0, NONE);
        use(Picture.rich());
        row("count(*)", 3, 3, 1, 16, 6);
        clock("figure plain 6 0 0;".repeat(6));
        due("count(0)", 6);
        for (int i = 1; i <= 12; i++) {
            due("see(0, 0, true)", i);
        }
        due("keep(1)", 0);
        due("count(2)", 1);
        due("keep(0)", 0);
        for (int i = 1; i <= 50; i++) {
            due("feed(0)", 8 * i);
        }
        due("sheet(1, 0, 9)", 1);
        row("count(*)", 6, 12, 2, 400, NONE);
        due("sheet(0, 0, 0)", 1);
        due("count(4)", 0);
        due("sheet(0, 0, 40)", 1);
        row("count(*)", 6, 12, 2, 400, 40);
        due("end(399)", 400);
        due("count(3)", 399);

        of(43, "BAD.");
        star(BAD, "count(*)", "5", "-1", "MIN", "MAX");
    }
}
