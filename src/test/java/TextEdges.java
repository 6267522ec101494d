/** The boundary cases of the text: what the terms say of it, and promises 1 to 8. */
final class TextEdges extends Edges {
    private static final int TERMS = Sentences.TERMS;
    private static final String SIX = "figure plain 2 0 0;".repeat(6);
    private static final String SIX_VOTES = "vote 0 0 5 0 0;".repeat(6);

    TextEdges(Sentences sentences) {
        super(sentences);
    }

    @Override
    void all() {
        tape();
        tokens();
        names();
        lines();
        numbersOfLines();
        firstMet();
        faultsOneAndTwo();
        faultThree();
        faultsFourToSix();
        taken();
        newObject();
        feeds();
        ends();
        texts();
        faults();
        rules();
        figures();
        votes();
    }

    private void tape() {
        of(TERMS, "THE TAPE has 400 bytes, places from 0.");
        for (int i = 1; i <= 50; i++) {
            due("feed(2314885530818453536)", 8 * i);
        }
        due("feed(2314885530818453536)", FULL);
        due("count(3)", 400);
        due("text()", 0);
        text(" ".repeat(392) + "reach 3;", 1);
        due("rule(4)", 3);
        fails("." + " ".repeat(399), 1, 0);
        fails(" ".repeat(399) + ".", 1, 399);
        fails("reach 1" + " ".repeat(393), 2, 400);
    }

    private void tokens() {
        of(TERMS, "TOKENS, each as long as may be,");
        fails("figureplain 5 0 0;", 2, 0);
        fails("reachreach 1;", 2, 0);
        fails("reac h 1;", 2, 0);
        fails("reach12;", 3, 5);
        fails("reach1234;", 1, 5);
        fails("figure plain 500;", 3, 13);
        text("reach2;", 1);

        of(TERMS, "blanks (32) ahead, between, behind, as many as wanted");
        text("   reach   2   ;   ", 1);
        due("rule(4)", 2);
        text("     ", 0);
        text(" ".repeat(100) + "reach" + " ".repeat(100) + "3" + " ".repeat(100) + ";" + " ".repeat(93), 1);
        due("rule(4)", 3);
        for (char c : new char[] {0, 9, 10, 13, 31, 33, 127, 160, 255}) {
            fails("reach" + c + "2;", 1, 5);
            fails(c + "reach 2;", 1, 0);
            fails("reach 2;" + c, 1, 8);
        }

        of(TERMS, "(at least one between two NAMES, between two NUMBERS; else none is needed):");
        fails("figureplain 5 0 0;", 2, 0);
        fails("figure plain 50 0;", 2, 17);
        fails("reach 1figure;", 2, 7);
        text("figure plain5 0 0;stick1 0 0;reach1;figure worn1 5 0 0;figure twin1 5 0 0;figure both1 1 5 0 0;vote1 0 5 0 0;", 7);
    }

    private void names() {
        of(TERMS, "NAMES (a .. z),");
        for (String name : new String[] {"a", "z", "az", "m".repeat(400)}) {
            fails(name, 2, 0);
        }
        for (String none : new String[] {"`", "{", "A", "Z", "Reach 1;", "_", "" + (char) 225}) {
            fails(none, 1, 0);
        }
        fails("reaCh 1;", 2, 0);
        fails("reachA 1;", 1, 5);

        of(TERMS, "NUMBERS (1 to 3 figures),");
        for (String one : new String[] {"2", "02", "002"}) {
            text("reach " + one + ";", 1);
            due("rule(4)", 2);
        }
        fails("reach 0002;", 1, 6);
        // 1 with 2 to the 32, 1 with 2 to the 64: a number that wraps around would be taken
        fails("reach 4294967297;", 1, 6);
        fails("reach 18446744073709551617;", 1, 6);
        for (String one : new String[] {"0", "9", "999"}) {
            fails(one, 2, 0);
        }
        for (String none : new String[] {"/", ":", "-", "+"}) {
            fails("reach " + none + "1;", 1, 6);
        }

        of(TERMS, "the sign ; (a point is none).");
        text("reach 1;", 1);
        for (String none : new String[] {".", ":", "<", ",", "" + (char) 187}) {
            fails(none, 1, 0);
            fails("reach 1" + none, 1, 7);
        }
    }

    private void lines() {
        of(TERMS, "text: { line } line: figure K N N N ; | stick N N N ; | reach N ; | vote N N N N N ; K: plain | worn N | twin N | both N N");
        text("", 0);
        text("figure plain 5 0 0;", 1);
        text("figure worn 1 5 0 0;figure twin 1 5 0 0;figure both 1 1 5 0 0;", 3);
        text("vote 0 0 5 0 0;reach 1;figure plain 5 0 0;stick 0 0 0;", 4);
        // one number too few, one too many
        fails("figure plain 5 0;", 2, 16);
        fails("figure plain 5 0 0 0;", 2, 19);
        fails("figure worn 1 5 0;", 2, 17);
        fails("figure worn 1 5 0 0 0;", 2, 20);
        fails("figure twin 1 5 0;", 2, 17);
        fails("figure twin 1 5 0 0 0;", 2, 20);
        fails("figure both 1 1 5 0;", 2, 19);
        fails("figure both 1 1 5 0 0 0;", 2, 22);
        fails("stick 0 0;", 2, 9);
        fails("stick 0 0 0 0;", 2, 12);
        fails("reach;", 2, 5);
        fails("reach 1 1;", 2, 8);
        fails("vote 0 0 5 0;", 2, 12);
        fails("vote 0 0 5 0 0 0;", 2, 15);
        // no line is empty, none is without its sign
        fails(";", 2, 0);
        fails("reach 1;;", 2, 8);
        fails("reach 1 stick 0 0 0;", 2, 8);
    }

    private void numbersOfLines() {
        of(TERMS, "figure: K (worn: LATE; twin: GAP; both: LATE, GAP; GAP 1 to 59), TEETH, FIRST (0 to 59), DOOR.");
        text("figure both 3 59 60 58 7;figure worn 2 9 8 6;figure twin 4 9 7 5;figure plain 60 59 8;figure both 1 1 2 0 0;", 5);
        row("figure(0, *)", 3, 60, 58, 7, 3, 59);
        row("figure(1, *)", 1, 9, 8, 6, 2, NONE);
        row("figure(2, *)", 2, 9, 7, 5, NONE, 4);
        row("figure(3, *)", 0, 60, 59, 8, NONE, NONE);
        row("figure(4, *)", 3, 2, 0, 0, 1, 1);
        fails("figure twin 60 60 0 0;", 3, 12);
        fails("figure twin 0 60 0 0;", 3, 12);
        fails("figure both 1 60 60 0 0;", 3, 14);
        fails("figure both 1 0 60 0 0;", 3, 14);
        fails("figure plain 60 60 0;", 3, 16);
        fails("figure plain 5 60 0;", 3, 15);
        fails("figure plain 5 59 0;", 4, 15);

        of(TERMS, "stick: DOOR, from, to.");
        text("stick 7 8 9;", 1);
        row("rule(*)", 0, 7, 8, 9);

        of(TERMS, "vote: YEAR, FIGURE (0 to 5), TEETH, FIRST (0 to TEETH less 1), DOOR.");
        text(SIX + "vote 98 5 60 59 8;vote 99 0 2 0 0;", 8);
        row("vote(0, *)", 98, 5, 60, 59, 8);
        row("vote(1, *)", 99, 0, 2, 0, 0);
        fails("vote 0 6 5 0 0;", 3, 7);
        fails("vote 0 0 5 5 0;", 3, 11);
        fails("vote 0 0 60 60 0;", 3, 12);
        fails("vote 0 0 1 0 0;", 3, 9);
        fails("vote 0 0 61 0 0;", 3, 9);
        fails("vote 0 0 5 0 9;", 3, 13);
    }

    private void firstMet() {
        of(TERMS, "FAULTS, the first met as it is read (a TOKEN is read when the one before has been taken):");
        fails("reach 9 .", 3, 6);
        fails("odd .", 2, 0);
        fails("odd1234", 2, 0);
        fails("reach 1;reach .", 4, 8);
        fails(SIX + "figure .", 5, 114);
        fails(SIX_VOTES + "vote 1234", 5, 90);
        fails("figure odd 1234", 2, 7);
        fails("figure twin 5 5 60 9", 4, 14);
        fails("figure plain 5 5 9;", 4, 15);
        fails("figure plain 5 5.", 4, 15);
        fails("vote 0 0 5 0 0;reach 9;", 3, 21);
        fails("vote 0 0 5 0 0;.", 1, 15);
        fails(". reach 9;", 1, 0);
        fails("1234", 1, 0);
        fails("reach 0009;", 1, 6);
        fails("figure plain 60 60.", 3, 16);
    }

    private void faultsOneAndTwo() {
        of(TERMS, "1 no TOKEN, a NUMBER that is too long (its first byte).");
        fails("?", 1, 0);
        fails("reach 1;  ?", 1, 10);
        fails("reach ?", 1, 6);
        fails("reach 1 ?", 1, 8);
        fails("figure ?", 1, 7);
        fails("  1234", 1, 2);
        fails("reach 1 12345;", 1, 8);
        fails("figure 1000;", 1, 7);
        fails("figure plain 5 0 0000;", 1, 17);

        of(TERMS, "2 a TOKEN that can not stand there (a NAME that begins no line, is no K; or the end: the length).");
        fails("plain 5 0 0;", 2, 0);
        fails("figures plain 5 0 0;", 2, 0);
        fails("figur plain 5 0 0;", 2, 0);
        fails("sticks 0 0 0;", 2, 0);
        fails("reac 1;", 2, 0);
        fails("votes 0 0 5 0 0;", 2, 0);
        // a NAME that is another one by its first sign alone, by its last one alone
        for (String name : new String[] {"bigure", "figurf", "ttick", "sticj", "peach", "reaci", "note", "votf"}) {
            fails(name + " 1 0 5 0 0;", 2, 0);
        }
        for (String name : new String[] {"blain", "plaim", "born", "worm", "bwin", "twim", "moth", "bots"}) {
            fails("figure " + name + " 1 1 5 0 0;", 2, 7);
        }
        fails("figure figure 5 0 0;", 2, 7);
        fails("figure plains 5 0 0;", 2, 7);
        fails("figure plai 5 0 0;", 2, 7);
        fails("figure 5 0 0;", 2, 7);
        fails("figure ;", 2, 7);
        fails("figure worn;", 2, 11);
        fails("5;", 2, 0);
        fails("reach reach;", 2, 6);
        fails("reach 1 reach;", 2, 8);
        // the end, wherever it is
        fails("figure", 2, 6);
        fails("figure   ", 2, 9);
        fails("figure plain", 2, 12);
        fails("figure both 1", 2, 13);
        fails("figure plain 5 0 0", 2, 18);
        fails("vote", 2, 4);
        fails("stick 0", 2, 7);
        fails("reach 1   ", 2, 10);
        fails("reach 1;  stick", 2, 15);
    }

    private void faultThree() {
        of(TERMS, "3 a NUMBER out of its bounds.");
        fails("figure plain 1 0 0;", 3, 13);
        fails("figure plain 61 0 0;", 3, 13);
        fails("figure plain 60 60 0;", 3, 16);
        fails("figure plain 5 0 9;", 3, 17);
        fails("figure worn 0 5 0 0;", 3, 12);
        fails("figure worn 4 5 0 0;", 3, 12);
        fails("figure twin 0 5 0 0;", 3, 12);
        fails("figure twin 60 60 0 0;", 3, 12);
        fails("figure twin 1 1 0 0;", 3, 14);
        fails("figure both 4 1 5 0 0;", 3, 12);
        fails("figure both 1 60 5 0 0;", 3, 14);
        fails("stick 9 0 0;", 3, 6);
        fails("stick 0 366 366;", 3, 8);
        fails("stick 0 365 366;", 3, 12);
        fails("stick 0 365 364;", 3, 12);
        fails("reach 4;", 3, 6);
        fails("vote 100 0 5 0 0;", 3, 5);
        fails("vote 99 0 5 0 0;vote 98 0 5 0 0;", 3, 21);
        fails("vote 0 6 5 0 0;", 3, 7);
        fails("vote 0 0 5 5 0;", 3, 11);
        fails("reach 999;", 3, 6);
    }

    private void faultsFourToSix() {
        of(TERMS, "4 stick, reach for the second time (its NAME), TEETH no more than the GAP told (it), FIRST no less than TEETH (it).");
        fails("stick 0 0 0;stick 0 0 0;", 4, 12);
        fails("reach 1;reach 1;", 4, 8);
        fails("stick 0 0 0;reach 1;stick", 4, 20);
        fails("reach 0;stick 0 0 0;  reach", 4, 22);
        fails("figure twin 5 5 0 0;", 4, 14);
        fails("figure twin 6 5 0 0;", 4, 14);
        fails("figure both 1 59 59 0 0;", 4, 17);
        fails("figure plain 5 5 0;", 4, 15);
        fails("figure plain 5 6 0;", 4, 15);
        fails("figure worn 1 59 59 0;", 4, 17);
        text("figure twin 4 5 4 0;figure both 1 58 59 58 0;", 2);
        // a text of its own may tell both once more
        text("stick 0 0 0;reach 1;", 2);
        text("reach 1;stick 0 0 0;", 2);

        of(TERMS, "5 the 7th figure, the 7th vote (its NAME).");
        text(SIX + SIX_VOTES, 12);
        fails(SIX + "figure plain 2 0 0;", 5, 114);
        fails(SIX + "  figure", 5, 116);
        fails(SIX + SIX_VOTES + "vote 0 0 5 0 0;", 5, 204);
        fails(SIX_VOTES + "  vote", 5, 92);

        of(TERMS, "Behind all (the length): 6 a FIGURE that there is not.");
        fails("vote 0 0 5 0 0;", 6, 15);
        fails("figure plain 2 0 0;vote 0 1 5 0 0;  ", 6, 36);
        fails("figure plain 2 0 0;".repeat(5) + "vote 0 5 5 0 0;vote 0 0 5 0 0;", 6, 125);
        fails("vote 0 0 5 0 0;reach 1;", 6, 23);
        text("vote 0 0 5 0 0;figure plain 2 0 0;", 2);
        text(SIX + "vote 0 5 5 0 0;", 7);
    }

    private void taken() {
        of(TERMS, "A text that is taken tells all, in place of what there was (what it does not tell is as at first); "
                + "nothing SEEN; IMAGES are gone; SHEETS stay.");
        use(Picture.rich());
        due("end(0)", 16);
        due("keep(1)", 0);
        text("figure plain 9 1 2;", 1);
        row("rule(*)", 1, NONE, NONE, NONE, 1, 0);
        row("figure(0, *)", 0, 9, 1, 2, NONE, NONE, 9);
        each(BAD, "figure(1, 0)", "vote(0, 0)");
        row("count(*)", 0, 0, 0, 0, 6);
        star(STATE, "back(*)", "0", "1");
        due("read(0, 1, 0, 1)", 1);
        due("read(1, 0, 0, 1)", -20);
        due("lay(2, 0, 0)", -12);
        due("lay(3, 0, 0)", -11);
        due("keep(0)", 0);
        text("", 0);
        row("rule(*)", 0, NONE, NONE, NONE, 1, 0);
        row("count(*)", 0, 0, 0, 0, 6);
    }

    private void newObject() {
        of(1, "No FIGURES, as told at first;");
        row("rule(*)", 0, NONE, NONE, NONE, 1, 0);
        row("count(*)", 0, 0, 0, 0);
        each(0, "fault()", "torn()", "hold(0)", "forget(0)", "end(0)", "mend(0)", "mend(1)", "clashes(0, 400)", "stand(0, 1)", "keep(0)", "back(0)");
        due("back(1)", STATE);
        each(NONE, "first(0, 0)", "first(0, 1)");
        each(BAD, "figure(0, 0)", "vote(0, 0)", "out(0, 0)", "all(1, 0)", "cycle(1)", "crash(0)", "by(0, 0)", "cut(0, 0)", "turn(0)",
                "recut(0, 5, 0)", "hold(1)", "ask(0, 0, 5, 0, 0)", "see(0, 0, true)", "forget(1)", "error(0)", "wheels(0, 0)", "worn(0)", "end(1)");

        of(1, "SHEETS of nothing.");
        row("lay(*, 0, 0)", -11, -11, -11, -11);
        due("count(4)", NONE);
        for (int k = 0; k < 4; k++) {
            due("read(" + k + ", 2, 0, 0)", 0);
            due("torn()", 0);
            due("read(" + k + ", 2, 0, 1)", 0);
            due("torn()", 1);
        }
        // a second object has nothing of the first one's
        use(Picture.rich());
        due("rule(0)", 4);
        use(new Asked());
        row("rule(*)", 0, NONE, NONE, NONE, 1, 0);
        row("count(*)", 0, 0, 0, 0, NONE);
    }

    private void feeds() {
        of(2, "Eight bytes come behind THE TAPE, the highest first: how many it has.");
        // 'reach 3;', then '    reac' and 'h 2;    '
        due("feed(8243101772548158267)", 8);
        due("text()", 1);
        due("rule(4)", 3);
        due("feed(2314885532198723939)", 8);
        due("feed(7503052208722681888)", 16);
        due("text()", 1);
        due("rule(4)", 2);
        // a byte above 127 is no blank and no letter, whichever it is
        due("feed(-1)", 8);
        due("text()", -10);
        due("fault()", 1);
        due("feed(MIN)", 8);
        due("text()", -10);
        due("feed(MAX)", 8);
        due("text()", -10);
        due("feed(2314885530818453759)", 8);
        due("text()", -17);
        due("feed(0)", 8);
        due("text()", -10);

        of(2, "FULL: more than 400.");
        for (int i = 1; i <= 50; i++) {
            due("feed(2314885530818453536)", 8 * i);
        }
        star(FULL, "feed(*)", "0", "MIN", "MAX");
        due("count(3)", 400);
        due("end(393)", 400);
        due("feed(0)", FULL);
        due("count(3)", 393);
        due("end(392)", 393);
        due("feed(2314885530818453536)", 400);
        due("text()", 0);
    }

    private void ends() {
        of(3, "THE TAPE keeps its first n bytes: how many it had.");
        feed("reach 3;reach 2;");
        due("end(16)", 16);
        due("end(8)", 16);
        due("count(3)", 8);
        due("text()", 1);
        due("rule(4)", 3);
        due("end(0)", 0);
        feed("reach 2;");
        due("end(7)", 8);
        due("text()", -17);
        feed("reach 2;");
        due("end(0)", 8);
        due("text()", 0);

        of(3, "BAD (n above that, too).");
        star(BAD, "end(*)", "1", "-1", "MIN", "MAX");
        feed("reach 3;");
        star(BAD, "end(*)", "9", "-1", "400", "401", "MIN", "MAX");
        due("count(3)", 8);
        due("end(4)", 8);
        due("end(5)", BAD);
        due("end(4)", 4);
        keepsEach(BAD, "end(17)", "end(-1)");
    }

    private void texts() {
        of(4, "THE TAPE (empty then, by a FAULT, too) tells all: how many lines;");
        text("", 0);
        text("reach 1;", 1);
        due("count(3)", 0);
        text(".", -10);
        due("count(3)", 0);
        due("text()", 0);
        due("fault()", 0);
        text(SIX + SIX_VOTES + "reach 1;stick 0 0 0;", 14);
        due("count(3)", 0);
        // what comes then stands from place 0 on again
        text("reach 1;.", -18);

        of(4, "-10 less the place of its FAULT: that which was told stays.");
        use(Picture.rich());
        due("end(0)", 16);
        text(".", -10);
        text(" ".repeat(399) + ".", -409);
        text("reach 1" + " ".repeat(393), -410);
        text("figure plain 5 0 0;stick 1 2 3;reach 0;vote 1 3 5 0 0;", -64);
        row("rule(*)", 4, 3, 5, 6, 2, 2);
        row("figure(0, *)", 0, 7, 1, 0, NONE, NONE, 7);
        row("figure(3, *)", 3, 6, 0, 0, 3, 5, 19);
        row("vote(1, *)", 9, 3, 10, 2, 2);
        row("count(*)", 3, 3, 1, 0, 6);
        due("torn()", 2);
    }

    private void faults() {
        of(5, "The FAULT of the latest text(); 0.");
        due("fault()", 0);
        String[] texts = {".", "odd", "reach 4;", "reach 1;reach 1;", SIX + "figure", "vote 0 0 5 0 0;"};
        for (int i = 0; i < texts.length; i++) {
            feed(texts[i]);
            due("fault()", i);
            due("text()", i == 0 || i == 1 ? -10 : i == 2 ? -16 : i == 3 ? -18 : i == 4 ? -124 : -25);
            due("fault()", i + 1);
        }
        due("end(1)", BAD);
        due("hold(9)", BAD);
        due("fault()", 6);
        due("text()", 0);
        due("fault()", 0);
    }

    private void rules() {
        of(6, "0 FIGURES, 1 the DOOR that STICKS, 2 from, 3 to (NONE: none), 4 REACH, 5 VOTES.");
        row("rule(*)", 0, NONE, NONE, NONE, 1, 0);
        text(SIX + SIX_VOTES + "stick 8 0 365;reach 0;", 14);
        row("rule(*)", 6, 8, 0, 365, 0, 6);
        // door 0 on day 0 is one that sticks
        due("stick(0, 0, 0)", 1);
        row("rule(*)", 6, 0, 0, 0, 0, 6);
        due("stick(NONE, 0, 0)", 1);
        row("rule(*)", 6, NONE, NONE, NONE, 0, 6);

        of(6, "BAD.");
        star(BAD, "rule(*)", "6", "-1", "MIN", "MAX");
    }

    private void figures() {
        of(7, "Of a FIGURE: 0 KIND, 1 TEETH, 2 FIRST, 3 DOOR, 4 LATE, 5 GAP (NONE: it has none), 6 ROUND.");
        clock("figure plain 2 1 3;figure worn 1 2 1 8;figure twin 1 2 0 4;figure both 3 59 60 59 0;");
        row("figure(0, *)", 0, 2, 1, 3, NONE, NONE, 2);
        row("figure(1, *)", 1, 2, 1, 8, 1, NONE, 3);
        row("figure(2, *)", 2, 2, 0, 4, NONE, 1, 2);
        row("figure(3, *)", 3, 60, 59, 0, 3, 59, 181);

        of(7, "BAD.");
        due("figure(0, 0)", BAD);
        clock("figure plain 2 1 3;figure plain 2 1 3;");
        star(BAD, "figure(*, 0)", "2", "-1", "MIN", "MAX");
        star(BAD, "figure(1, *)", "7", "-1", "MIN", "MAX");
    }

    private void votes() {
        of(8, "Of a VOTE: 0 YEAR, 1 FIGURE, 2 TEETH, 3 FIRST, 4 DOOR.");
        clock("figure plain 5 4 3;figure plain 5 4 3;vote 7 1 50 49 8;vote 99 0 2 1 0;");
        row("vote(0, *)", 7, 1, 50, 49, 8);
        row("vote(1, *)", 99, 0, 2, 1, 0);

        of(8, "BAD.");
        due("vote(0, 0)", BAD);
        clock("figure plain 5 4 3;vote 7 0 50 49 8;vote 99 0 2 1 0;");
        star(BAD, "vote(*, 0)", "2", "-1", "MIN", "MAX");
        star(BAD, "vote(1, *)", "5", "-1", "MIN", "MAX");
    }
}
