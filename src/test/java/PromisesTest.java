/** Each promise of the document with ordinary inputs, its edges and wrong inputs; answers are reckoned by hand. */
public final class PromisesTest {
    private static final int BAD = -1, STATE = -2, FULL = -3, NONE = -4;
    private static final long END = 1000000000000L;
    private static final Due D = new Due();

    public static void main(String[] args) {
        newObject();
        tape();
        textsTaken();
        faultsOfTokens();
        faultsOfPlace();
        faultsOfBounds();
        faultsAtOdds();
        faultsOfNumber();
        textsReplace();
        rules();
        figures();
        votes();
        outs();
        nextAndLast();
        oftens();
        togethers();
        meetingsOfTwo();
        alls();
        cycles();
        crashes();
        firsts();
        dates();
        days();
        doors();
        clashing();
        sticks();
        cuts();
        turns();
        recuts();
        mends();
        holds();
        asks();
        sees();
        errors();
        wheelsThatFit();
        wornOnes();
        frights();
        images();
        sheets();
        reads();
        counts();
        D.finish("PromisesTest");
    }

    private static void due(String call, long got, long want) {
        D.due(call, got, want);
    }

    private static void newObject() {
        ClockTeeth x = new ClockTeeth();
        int[] told = {0, NONE, NONE, NONE, 1, 0};
        for (int what = 0; what < 6; what++) {
            due("new rule(" + what + ")", x.rule(what), told[what]);
        }
        int[] many = {0, 0, 0, 0, NONE};
        for (int what = 0; what < 5; what++) {
            due("new count(" + what + ")", x.count(what), many[what]);
        }
        due("new fault", x.fault(), 0);
        due("new torn", x.torn(), 0);
        due("new figure", x.figure(0, 0), BAD);
        due("new vote", x.vote(0, 0), BAD);
        due("new out", x.out(0, 0), BAD);
        due("new next", x.next(0, 0), BAD);
        due("new all", x.all(1, 0), BAD);
        due("new cycle", x.cycle(1), BAD);
        due("new first", x.first(0, 0), NONE);
        due("new first pair", x.first(0, 1), NONE);
        due("new clashes", x.clashes(0, 400), 0);
        due("new fright", x.fright(0, 0, 400), 0);
        due("new stand", x.stand(0, 1), 0);
        due("new mend", x.mend(0), 0);
        due("new mend 1", x.mend(1), 0);
        due("new hold", x.hold(0), 0);
        due("new hold 1", x.hold(1), BAD);
        due("new see", x.see(0, 0, true), BAD);
        due("new back", x.back(0), STATE);
        for (int k = 0; k < 4; k++) {
            due("new lay " + k, x.lay(k, 0, 0), -11);
        }
    }

    private static void tape() {
        ClockTeeth x = new ClockTeeth();
        for (int i = 1; i <= 50; i++) {
            due("feed " + i, x.feed(0x2020202020202020L), 8L * i);
        }
        due("feed full", x.feed(0), FULL);
        due("still 400", x.count(3), 400);
        due("end 401", x.end(401), BAD);
        due("end -1", x.end(-1), BAD);
        due("end 393", x.end(393), 400);
        due("feed beyond by one", x.feed(0), FULL);
        due("end 392", x.end(392), 393);
        due("feed just", x.feed(0x2020202020202020L), 400);
        due("end 393 again", x.end(393), 400);
        due("end 394", x.end(394), BAD);
        due("count of it", x.count(3), 393);
        due("blanks alone", x.text(), 0);
        due("tape is empty", x.count(3), 0);
        due("end 0", x.end(0), 0);
        // the highest byte comes first; 0xff is no token wherever it stands
        due("feed order", x.feed(0x72656163682033FFL), 8);
        due("place of the lowest byte", x.text(), -17);
        due("fault 1", x.fault(), 1);
        due("negative", x.feed(0xFF20202020202020L), 8);
        due("place of the highest byte", x.text(), -10);
    }

    private static void textsTaken() {
        ClockTeeth x = new ClockTeeth();
        due("no byte", x.text(), 0);
        due("no byte, no fault", x.fault(), 0);
        due("tight", Due.tell(x, "reach2;figure both3 58 59 58 8;"), 2);
        due("reach", x.rule(4), 2);
        due("gap", x.figure(0, 5), 58);
        due("wide", Due.tell(x, "   figure   plain   007 03   08   ;   reach   000 ;   "), 2);
        due("teeth 007", x.figure(0, 1), 7);
        due("reach 000", x.rule(4), 0);
        due("most", Due.tell(x, "figure plain 60 59 8;figure twin 59 60 59 8;figure worn 3 60 0 0;figure worn 1 2 1 0;"
                + "figure both 1 1 2 0 0;figure both 3 59 60 59 8;stick 8 365 365;reach 3;"
                + "vote 0 0 2 0 0;vote 0 5 60 59 8;vote 99 5 60 59 8;vote 99 0 2 1 0;vote 99 1 2 1 0;vote 99 2 2 1 0;"), 14);
        due("six figures", x.rule(0), 6);
        due("six votes", x.rule(5), 6);
        due("votes ahead of figures", Due.tell(x, "vote 1 0 5 0 0;figure plain 5 0 0;"), 2);
        due("to like from", Due.tell(x, "stick 0 0 0;"), 1);
        String line = "vote 1 0 5 0 0;";
        due("400 bytes", Due.tell(x, line + " ".repeat(400 - line.length() - 19) + "figure plain 5 0 0;"), 2);
    }

    private static void fails(String text, int fault, int place) {
        ClockTeeth x = Due.of("figure plain 9 8 7;");
        due("text " + text, Due.tell(x, text), -10 - place);
        due("fault of " + text, x.fault(), fault);
        due("tape behind " + text, x.count(3), 0);
        due("told stays by " + text, x.figure(0, 1), 9);
        due("reach stays by " + text, x.rule(4), 1);
    }

    private static void faultsOfTokens() {
        fails(".", 1, 0);
        fails("reach 1.;", 1, 7);
        fails("Reach 1;", 1, 0);
        fails("reach -1;", 1, 6);
        fails("reach 1;\n", 1, 8);
        fails("reach\t1;", 1, 5);
        fails("reach 0001;", 1, 6);
        fails("1000 reach;", 1, 0);
        fails("reach 1; 1234", 1, 9);
        fails("reach 1 1234;", 1, 8);
        fails("figure 1234;", 1, 7);
        fails("`", 1, 0);
        fails("{", 1, 0);
        fails("/", 1, 0);
        fails(":", 1, 0);
        fails("reach 1" + (char) 187 + "", 1, 7);
        fails("reach" + (char) 0 + "1;", 1, 5);
        // what stands behind a fault is not read
        fails("reach 9 .", 3, 6);
        fails("odd .", 2, 0);
        fails("reach 1;reach .", 4, 8);
    }

    private static void faultsOfPlace() {
        fails(";", 2, 0);
        fails("5;", 2, 0);
        fails("plain 5 0 0;", 2, 0);
        fails("figures plain 5 0 0;", 2, 0);
        fails("figur plain 5 0 0;", 2, 0);
        fails("figureplain 5 0 0;", 2, 0);
        fails("figure", 2, 6);
        fails("figure   ", 2, 9);
        fails("figure ;", 2, 7);
        fails("figure figure 5 0 0;", 2, 7);
        fails("figure plain", 2, 12);
        fails("figure plain ;", 2, 13);
        fails("figure plain 5 0;", 2, 16);
        fails("figure plain 5 0 0", 2, 18);
        fails("figure plain 5 0 0  ", 2, 20);
        fails("figure plain 5 0 0 0;", 2, 19);
        fails("figure plain 5 0 0 reach;", 2, 19);
        fails("figure worn plain 5 0 0;", 2, 12);
        fails("figure worn 1 5 0;", 2, 17);
        fails("figure both 1 2 5 0;", 2, 19);
        fails("stick 0 0;", 2, 9);
        fails("stick 0 0 0 0;", 2, 12);
        fails("reach;", 2, 5);
        fails("reach 1;;", 2, 8);
        fails("vote 0 0 5 0;", 2, 12);
        fails("vote 0 0 5 0 0 0;", 2, 15);
    }

    private static void faultsOfBounds() {
        fails("figure plain 1 0 0;", 3, 13);
        fails("figure plain 61 0 0;", 3, 13);
        fails("figure plain 60 60 0;", 3, 16);
        fails("figure plain 5 0 9;", 3, 17);
        fails("figure worn 0 5 0 0;", 3, 12);
        fails("figure worn 4 5 0 0;", 3, 12);
        fails("figure twin 0 5 0 0;", 3, 12);
        fails("figure twin 60 60 0 0;", 3, 12);
        fails("figure both 4 0 5 0 0;", 3, 12);
        fails("figure both 3 0 5 0 0;", 3, 14);
        fails("figure twin 1 1 0 0;", 3, 14);
        fails("stick 9 0 0;", 3, 6);
        fails("stick 0 366 366;", 3, 8);
        fails("stick 0 0 366;", 3, 10);
        fails("stick 0 2 1;", 3, 10);
        fails("reach 4;", 3, 6);
        fails("vote 100 0 5 0 0;", 3, 5);
        fails("vote 0 6 5 0 0;", 3, 7);
        fails("vote 0 0 1 0 0;", 3, 9);
        fails("vote 0 0 61 0 0;", 3, 9);
        fails("vote 0 0 5 5 0;", 3, 11);
        fails("vote 0 0 5 0 9;", 3, 13);
        fails("vote 7 0 5 0 0;vote 6 0 5 0 0;", 3, 20);
    }

    private static void faultsAtOdds() {
        fails("figure plain 5 5 0;", 4, 15);
        fails("figure twin 5 5 0 0;", 4, 14);
        fails("figure both 1 59 2 0 0;", 4, 17);
        fails("figure worn 3 59 59 0;", 4, 17);
        fails("stick 0 0 0;reach 1;stick 1 1 1;", 4, 20);
        fails("reach 1;stick 0 0 0;reach 1;", 4, 20);
    }

    private static void faultsOfNumber() {
        String six = "figure plain 2 0 0;".repeat(6);
        fails(six + "figure odd", 5, six.length());
        String votes = "vote 0 0 5 0 0;".repeat(6);
        fails(votes + "vote 999", 5, votes.length());
        fails("vote 0 0 5 0 0;", 6, 15);
        fails("figure plain 2 0 0;vote 0 1 5 0 0;  ", 6, 36);
        fails("figure plain 2 0 0;vote 0 0 5 0 0;vote 0 5 5 0 0;", 6, 49);
        fails("vote 0 0 5 0 0;reach 7;", 3, 21);
    }

    private static void textsReplace() {
        ClockTeeth x = Due.of("figure plain 5 0 0;figure plain 7 0 0;stick 1 2 3;reach 3;vote 1 1 5 0 0;");
        x.see(0, 5, true);
        x.keep(1);
        x.sheet(0, 1, 3);
        due("refused", Due.tell(x, "reach 2; odd"), -19);
        due("seen stays", x.count(1), 1);
        due("images stay", x.count(2), 1);
        due("reach stays", x.rule(4), 3);
        due("taken", Due.tell(x, "figure plain 9 1 2;"), 1);
        due("figures", x.rule(0), 1);
        due("none sticks", x.rule(1), NONE);
        due("reach at first", x.rule(4), 1);
        due("no votes", x.rule(5), 0);
        due("nothing seen", x.count(1), 0);
        due("no images", x.count(2), 0);
        due("image gone", x.back(1), STATE);
        due("sheets stay", x.count(4), 3);
        due("fault 0 again", x.fault(), 0);
    }

    private static void rules() {
        ClockTeeth x = Due.of("figure plain 5 0 0;stick 8 364 365;reach 0;vote 1 0 5 0 0;");
        int[] told = {1, 8, 364, 365, 0, 1};
        for (int what = 0; what < 6; what++) {
            due("rule(" + what + ")", x.rule(what), told[what]);
        }
        due("rule(-1)", x.rule(-1), BAD);
        due("rule(6)", x.rule(6), BAD);
    }

    private static void figures() {
        ClockTeeth x = Due.of("figure plain 5 4 3;figure worn 2 10 9 8;figure twin 6 7 5 4;figure both 3 1 60 59 0;");
        int[][] told = {
            {0, 5, 4, 3, NONE, NONE, 5}, {1, 10, 9, 8, 2, NONE, 21}, {2, 7, 5, 4, NONE, 6, 7}, {3, 60, 59, 0, 3, 1, 181},
        };
        for (int f = 0; f < 4; f++) {
            for (int what = 0; what < 7; what++) {
                due("figure(" + f + ", " + what + ")", x.figure(f, what), told[f][what]);
            }
            due("figure what -1", x.figure(f, -1), BAD);
            due("figure what 7", x.figure(f, 7), BAD);
        }
        due("figure(4, 0)", x.figure(4, 0), BAD);
        due("figure(-1, 0)", x.figure(-1, 0), BAD);
    }

    private static void votes() {
        ClockTeeth x = Due.of("figure plain 5 4 3;figure plain 5 4 3;vote 7 1 50 49 8;vote 99 0 2 1 0;");
        int[][] told = {{7, 1, 50, 49, 8}, {99, 0, 2, 1, 0}};
        for (int v = 0; v < 2; v++) {
            for (int what = 0; what < 5; what++) {
                due("vote(" + v + ", " + what + ")", x.vote(v, what), told[v][what]);
            }
            due("vote what -1", x.vote(v, -1), BAD);
            due("vote what 5", x.vote(v, 5), BAD);
        }
        due("vote(2, 0)", x.vote(2, 0), BAD);
        due("vote(-1, 0)", x.vote(-1, 0), BAD);
    }

    private static final String KINDS = "figure plain 10 3 0;figure worn 2 10 3 1;figure twin 8 10 3 2;figure both 2 8 10 3 3;"
            + "figure worn 1 10 3 4;figure both 3 9 10 5 5;";

    private static void outs() {
        ClockTeeth x = Due.of(KINDS);
        int[][] days = {
            {3, 13, 23, 33, 43}, {3, 13, 24, 34, 45}, {1, 3, 11, 13, 21, 23, 31, 33, 41, 43},
            // both: 3 and 11, 13 and 21, round 21; 21 is 0 of the next round, so he comes out on 0, too
            {0, 3, 11, 13, 21, 24, 32, 34, 42, 45}, {3, 14, 25, 36, 47},
            // both: 5 14, 15 24, 25 34, round 31: 34 is 3
            {3, 5, 14, 15, 24, 25, 34, 36, 45, 46},
        };
        for (int f = 0; f < 6; f++) {
            int at = 0;
            for (int t = 0; t <= days[f][days[f].length - 1]; t++) {
                boolean is = days[f][at] == t;
                due("out(" + f + ", " + t + ")", x.out(f, t), is ? 1 : 0);
                at += is ? 1 : 0;
            }
        }
        due("out at END", x.out(0, END), 0);
        due("out at END less 7", x.out(0, END - 7), 1);
        due("out behind END", x.out(0, END + 1), BAD);
        due("out -1", x.out(0, -1), BAD);
        due("out(6)", x.out(6, 0), BAD);
        due("out(-1)", x.out(-1, 0), BAD);
    }

    private static void nextAndLast() {
        ClockTeeth x = Due.of(KINDS);
        due("next itself", x.next(0, 13), 13);
        due("next behind", x.next(0, 14), 23);
        due("next worn", x.next(1, 14), 24);
        due("next twin ahead of first", x.next(2, 0), 1);
        due("next both 0", x.next(3, 0), 0);
        due("next both 1", x.next(3, 1), 3);
        due("next near END", x.next(0, END - 7), END - 7);
        due("next behind END", x.next(0, END - 6), NONE);
        due("next at END", x.next(0, END), NONE);
        due("next END + 1", x.next(0, END + 1), BAD);
        due("next -1", x.next(0, -1), BAD);
        due("next(6)", x.next(6, 0), BAD);
        due("next(-1)", x.next(-1, 0), BAD);
        due("last itself", x.last(0, 13), 13);
        due("last ahead", x.last(0, 12), 3);
        due("last none", x.last(0, 2), NONE);
        due("last worn", x.last(1, 23), 13);
        due("last twin ahead of first", x.last(2, 2), 1);
        due("last both", x.last(3, 2), 0);
        due("last of 0", x.last(0, 0), NONE);
        due("last at END", x.last(0, END), END - 7);
        due("last END + 1", x.last(0, END + 1), BAD);
        due("last -1", x.last(0, -1), BAD);
        due("last(6)", x.last(6, 0), BAD);
        due("last(-1)", x.last(-1, 0), BAD);
    }

    private static void oftens() {
        ClockTeeth x = Due.of(KINDS);
        due("often one day", x.often(0, 3, 3), 1);
        due("often no day", x.often(0, 4, 12), 0);
        due("often", x.often(0, 3, 13), 2);
        due("often far", x.often(0, 0, END), 100000000000L);
        due("often worn", x.often(1, 0, 45), 5);
        due("often twin", x.often(2, 0, 10), 2);
        due("often both", x.often(3, 0, 20), 4);
        due("often all of END", x.often(2, END, END), 0);
        due("often less", x.often(0, 5, 4), BAD);
        due("often from -1", x.often(0, -1, 4), BAD);
        due("often to END + 1", x.often(0, 0, END + 1), BAD);
        due("often(6)", x.often(6, 0, 1), BAD);
        due("often(-1)", x.often(-1, 0, 1), BAD);
    }

    private static final String PAIRS = "figure plain 6 0 0;figure plain 4 1 0;figure plain 10 5 0;figure plain 9 3 1;"
            + "figure plain 60 59 0;figure plain 59 58 0;";

    private static void togethers() {
        ClockTeeth x = Due.of(PAIRS);
        due("together never", x.together(0, 1, 0), NONE);
        due("together 5", x.together(1, 2, 0), 5);
        due("together from 5", x.together(2, 1, 5), 5);
        due("together from 6", x.together(2, 1, 6), 25);
        due("together 12", x.together(0, 3, 0), 12);
        due("together far", x.together(4, 5, 0), 60 * 59 - 1);
        // 20 divides END, so that they meet last on END less 15
        due("together last", x.together(1, 2, END - 15), END - 15);
        due("together behind END", x.together(1, 2, END - 14), NONE);
        due("together alike", x.together(1, 1, 0), BAD);
        due("together(6)", x.together(6, 1, 0), BAD);
        due("together(, 6)", x.together(1, 6, 0), BAD);
        due("together(-1)", x.together(-1, 1, 0), BAD);
        due("together(, -1)", x.together(1, -1, 0), BAD);
        due("together t -1", x.together(1, 2, -1), BAD);
        due("together t END + 1", x.together(1, 2, END + 1), BAD);
    }

    private static void meetingsOfTwo() {
        ClockTeeth x = Due.of(PAIRS);
        due("meetings never", x.meetings(0, 1, 0, END), 0);
        due("meetings", x.meetings(1, 2, 0, END), 50000000000L);
        due("meetings edge", x.meetings(1, 2, 5, 25), 2);
        due("meetings inside", x.meetings(1, 2, 6, 24), 0);
        due("meetings one day", x.meetings(2, 1, 5, 5), 1);
        due("meetings less", x.meetings(1, 2, 5, 4), BAD);
        due("meetings alike", x.meetings(1, 1, 0, 4), BAD);
        due("meetings(6)", x.meetings(6, 1, 0, 4), BAD);
        due("meetings(, -1)", x.meetings(1, -1, 0, 4), BAD);
        due("meetings from -1", x.meetings(1, 2, -1, 4), BAD);
        due("meetings to END + 1", x.meetings(1, 2, 0, END + 1), BAD);
        ClockTeeth y = Due.of("figure twin 1 2 0 0;figure both 2 1 2 0 0;");
        // one comes out each day, the other one on 0 1 2 3 of each 5
        due("meetings of twins", y.meetings(0, 1, 0, 9), 8);
    }

    private static void alls() {
        ClockTeeth x = Due.of(PAIRS);
        due("all of one", x.all(8, 4), 12);
        due("all of two", x.all(6, 6), 25);
        due("all of three", x.all(0b110010, 0), 60 * 59 - 1 == x.all(0b110000, 0) ? NONE : -99);
        due("all never", x.all(3, 0), NONE);
        due("all 0", x.all(0, 0), BAD);
        due("all 64", x.all(64, 0), BAD);
        due("all -1", x.all(-1, 0), BAD);
        due("all lowest int", x.all(Integer.MIN_VALUE, 0), BAD);
        due("all t -1", x.all(1, -1), BAD);
        due("all t END + 1", x.all(1, END + 1), BAD);
        // rounds 181, 179 and so on by plain chinese rests: all on the day ahead of their product
        ClockTeeth y = Due.of("figure plain 60 59 0;figure plain 59 58 0;figure plain 53 52 0;figure plain 47 46 0;"
                + "figure plain 43 42 0;figure plain 41 40 0;");
        long product = 60L * 59 * 53 * 47 * 43 * 41;
        due("all six", y.all(63, 0), product - 1);
        due("all six again", y.all(63, product), 2 * product - 1);
        long latest = END / product * product - 1;
        due("all six, the latest", y.all(63, latest), latest);
        due("all six behind END", y.all(63, latest + 1), NONE);
        due("cycle of six", y.cycle(63), product);
    }

    private static void cycles() {
        ClockTeeth x = Due.of(KINDS);
        due("cycle plain", x.cycle(1), 10);
        due("cycle plain, worn", x.cycle(3), 210);
        due("cycle worn, both", x.cycle(10), 21);
        due("cycle of all", x.cycle(63), 10 * 21 * 11 * 31);
        due("cycle 0", x.cycle(0), BAD);
        due("cycle 64", x.cycle(64), BAD);
        due("cycle -1", x.cycle(-1), BAD);
        ClockTeeth y = Due.of("figure worn 3 60 0 0;figure worn 3 59 0 0;figure worn 3 58 0 0;figure worn 3 56 0 0;"
                + "figure worn 3 57 0 0;figure worn 3 54 0 0;");
        // 181, 178, 175, 169, 172, 163: 178 and 172 share 2 alone; more than END, which is no DAY here
        due("cycle beyond END", y.cycle(63), 181L * 178 * 175 * 169 * 86 * 163);
    }

    private static void crashes() {
        ClockTeeth x = Due.of(PAIRS);
        due("crash(0)", x.crash(0), 1 << 5);
        // 4 and 10 share 2, by which 1 and 5 are alike; 4 and 60 share 4, by which 1 and 59 are not
        due("crash(1)", x.crash(1), 0b100100);
        due("crash(3)", x.crash(3), 0);
        due("crash(6)", x.crash(6), BAD);
        due("crash(-1)", x.crash(-1), BAD);
        // sticks does not matter
        ClockTeeth y = Due.of("figure plain 2 0 0;figure plain 2 0 0;figure plain 2 0 1;stick 0 0 365;");
        due("crash stuck", y.crash(0), 2);
        due("crash of the neighbour", y.crash(2), 0);
    }

    private static void firsts() {
        ClockTeeth x = Due.of("figure plain 6 0 0;figure plain 4 1 0;figure plain 10 5 0;figure plain 10 5 2;figure plain 20 5 2;"
                + "figure plain 5 1 0;");
        // doors 0: 0 and 2 never, 0 and 5 on 6, 36 ..; 1 and 2 on 5, 25 ..; 1 and 5 on 1, 21 ..; 2 and 5 never; door 2: 3 and 4 on 5, 25
        due("first 0", x.first(0, 0), 1);
        due("first pair 0", x.first(0, 1), 15);
        due("first 2", x.first(2, 0), 5);
        due("first of several", x.first(2, 1), 12);
        due("first 6", x.first(6, 0), 6);
        due("first pair 6", x.first(6, 1), 5);
        due("first 7", x.first(7, 0), 21);
        due("first 22", x.first(22, 1), 12);
        due("first what 2", x.first(0, 2), BAD);
        due("first what -1", x.first(0, -1), BAD);
        due("first t -1", x.first(-1, 0), BAD);
        due("first t END + 1", x.first(END + 1, 0), BAD);
        // 6 of 30 is END less 4 (END is 10 of 30); 5 of 20 END less 15, 1 of 20 END less 19
        due("first near END", x.first(END - 4, 0), END - 4);
        due("first behind END", x.first(END - 3, 0), NONE);
        due("first pair behind END", x.first(END - 3, 1), NONE);
    }

    private static void dates() {
        ClockTeeth x = new ClockTeeth();
        long t = 0;
        for (int year = 0; year < 10; year++) {
            int length = year % 4 == 0 ? 366 : 365;
            for (int d = 0; d < length; d++, t++) {
                due("date(" + t + ", 0)", x.date(t, 0), year);
                due("date(" + t + ", 1)", x.date(t, 1), d);
                due("day(" + year + ", " + d + ")", x.day(year, d), t);
            }
        }
        due("date END", x.date(END, 0), 2737850787L);
        due("date of END", x.date(END, 1), END - 2737850787L * 365 - (2737850787L + 3) / 4);
        due("date END + 1", x.date(END + 1, 0), BAD);
        due("date -1", x.date(-1, 0), BAD);
        due("date what 2", x.date(0, 2), BAD);
        due("date what -1", x.date(0, -1), BAD);
    }

    private static void days() {
        ClockTeeth x = new ClockTeeth();
        due("day(9996, 365)", x.day(9996, 365), 9996L * 365 + 2499 + 365);
        due("day(9999, 364)", x.day(9999, 364), 3652499);
        due("day(9999, 365)", x.day(9999, 365), BAD);
        due("day(0, 366)", x.day(0, 366), BAD);
        due("day(1, 365)", x.day(1, 365), BAD);
        due("day(100, 365)", x.day(100, 365), 100 * 365 + 25 + 365);
        due("day(10000, 0)", x.day(10000, 0), BAD);
        due("day(-1, 0)", x.day(-1, 0), BAD);
        due("day(-4, 0)", x.day(-4, 0), BAD);
        due("day(0, -1)", x.day(0, -1), BAD);
        due("day(highest)", x.day(Integer.MAX_VALUE, Integer.MAX_VALUE), BAD);
    }

    private static void doors() {
        ClockTeeth x = Due.of("figure plain 5 0 8;figure twin 1 2 0 3;stick 8 360 365;");
        due("by 0", x.by(0, 0), 8);
        due("by 1", x.by(0, 1), NONE);
        due("by ahead", x.by(0, 355), 8);
        due("by stuck", x.by(0, 360), 0);
        due("by last day of the leap year", x.by(0, 365), 0);
        due("by the next year", x.by(0, 370), 8);
        due("by the next year's 364", x.by(0, 730), 0);
        due("by another door", x.by(1, 360), 3);
        x.stick(3, 365, 365);
        due("by day 365", x.by(1, 365), 4);
        due("by day 364", x.by(1, 364), 3);
        due("by day 364 of YEAR 1", x.by(1, 730), 3);
        due("by day 0 of YEAR 2", x.by(1, 731), 3);
        due("by day 365 of YEAR 4", x.by(1, 1826), 4);
        due("by(2)", x.by(2, 0), BAD);
        due("by(-1)", x.by(-1, 0), BAD);
        due("by t -1", x.by(0, -1), BAD);
        due("by t END + 1", x.by(0, END + 1), BAD);
        due("by END", x.by(0, END), 8);
    }

    private static void clashing() {
        ClockTeeth x = Due.of("figure plain 2 0 0;figure plain 3 0 0;figure plain 2 0 1;stick 0 10 20;");
        due("clashes of two", x.clashes(0, 10), 2);
        due("clashes one day", x.clashes(0, 1), 1);
        due("clashes none", x.clashes(1, 5), 0);
        // from day 10 to 20 those of door 0 come out of 1, as the third one does
        due("clashes stuck", x.clashes(10, 11), 6);
        due("clashes all of it", x.clashes(0, 30), 2 + 6 + 1);
        due("clashes n 0", x.clashes(0, 0), BAD);
        due("clashes n 401", x.clashes(0, 401), BAD);
        due("clashes n -1", x.clashes(0, -1), BAD);
        due("clashes t -1", x.clashes(-1, 1), BAD);
        due("clashes t END + 1", x.clashes(END + 1, 1), BAD);
        x.stick(NONE, 0, 0);
        // END is 4 of 6: END and 2, END and 8 .. END and 398
        due("clashes at END", x.clashes(END, 400), 67);
    }

    private static void sticks() {
        ClockTeeth x = Due.of("figure plain 5 0 8;");
        due("stick first", x.stick(0, 0, 0), 0);
        due("stick again", x.stick(8, 1, 365), 1);
        int[][] wrong = {
            {9, 0, 0}, {-1, 0, 0}, {NONE, 0, 1}, {NONE, 1, 1}, {NONE, -1, 0}, {0, -1, 0}, {0, 5, 4}, {0, 0, 366}, {0, 366, 366},
            {0, 0, -1}, {-3, 0, 0},
        };
        for (int[] w : wrong) {
            due("stick(" + w[0] + ", " + w[1] + ", " + w[2] + ")", x.stick(w[0], w[1], w[2]), BAD);
        }
        due("door stays", x.rule(1), 8);
        due("from stays", x.rule(2), 1);
        due("to stays", x.rule(3), 365);
        due("stick none", x.stick(NONE, 0, 0), 1);
        due("stick none again", x.stick(NONE, 0, 0), 0);
        due("door none", x.rule(1), NONE);
        due("from none", x.rule(2), NONE);
        due("to none", x.rule(3), NONE);
        due("stick to 365", x.stick(0, 365, 365), 0);
    }

    private static void cuts() {
        ClockTeeth x = Due.of("figure plain 6 0 0;figure plain 5 0 0;figure plain 10 1 3;");
        // 6 with 5: never; 5 teeth: first 1 on; 7 would be later, and shares nothing
        due("cut teeth", x.cut(0, 0), 5);
        due("cut first", x.cut(0, 1), 1);
        // 5 with 6: 4 comes ahead of 6: 4 and 6 share 2, so first 1
        due("cut teeth 1", x.cut(1, 0), 4);
        due("cut first 1", x.cut(1, 1), 1);
        // he crashes with nobody: his own teeth, the least first
        due("cut of one alone", x.cut(2, 0), 10);
        due("cut of one alone, first", x.cut(2, 1), 0);
        due("nothing changed", x.figure(0, 1), 6);
        due("cut what 2", x.cut(0, 2), BAD);
        due("cut what -1", x.cut(0, -1), BAD);
        due("cut(3)", x.cut(3, 0), BAD);
        due("cut(-1)", x.cut(-1, 0), BAD);
        ClockTeeth y = Due.of("figure twin 1 2 0 0;figure twin 5 6 0 0;figure worn 1 5 0 1;figure plain 7 0 1;");
        due("cut none", y.cut(1, 0), NONE);
        due("cut none 1", y.cut(1, 1), NONE);
        // worn by 1 has a round of 6; with 7 the fewest changes are to 6, a round of 7
        due("cut worn", y.cut(2, 0), 6);
        due("cut worn first", y.cut(2, 1), 1);
        ClockTeeth z = Due.of("figure twin 5 7 0 0;figure plain 5 0 0;");
        // teeth 6 hold the gap 5, but share nothing with 5; teeth 8, 9 do not; 10 does: days 1 and 6, of 5 1 and 1
        due("cut twin", z.cut(0, 0), 10);
        due("cut twin first", z.cut(0, 1), 1);
        // teeth must share 3 with the one, 5 with the other one and 4 with the twins, who take both rests of 2
        ClockTeeth v = Due.of("figure plain 2 0 0;figure plain 3 0 0;figure plain 5 0 0;figure twin 1 4 0 0;");
        due("cut from 2 to 60", v.cut(0, 0), 60);
        due("cut from 2 to 60, first", v.cut(0, 1), 2);
    }

    private static void turns() {
        ClockTeeth x = Due.of("figure plain 6 5 0;figure plain 3 2 0;figure plain 9 4 0;figure plain 8 7 1;");
        // 6 at 5 crashes with 3 at 2 (of 3 alike); 4 of 9 is 1 of 3; so 0 is left: 5 and one more, behind 5: 0
        due("turn 0", x.turn(0), 0);
        due("turn of one alone", x.turn(3), 7);
        // 9 at 4 is 1 of 3: nobody is there, as 5 and 2 are 2
        due("turn who does not crash", x.turn(2), 4);
        due("turn 1", x.turn(1), 0);
        due("turn(4)", x.turn(4), BAD);
        due("turn(-1)", x.turn(-1), BAD);
        due("nothing changed", x.figure(0, 2), 5);
        ClockTeeth y = Due.of("figure plain 6 5 0;figure plain 5 2 0;");
        due("turn none", y.turn(0), NONE);
        ClockTeeth z = Due.of("figure both 1 1 5 0 0;figure plain 6 0 0;figure plain 6 1 0;");
        // his round is 6, but first stays below 5: 0 and 1 of 6, 1 and 2 of it are taken: first 2 (days 2 and 3)
        due("turn both", z.turn(0), 2);
        ClockTeeth v = Due.of("figure worn 1 2 0 0;figure twin 1 3 0 0;");
        // only 2 of 3 is free, which is no first of 2 teeth
        due("turn worn", v.turn(0), NONE);
    }

    private static void recuts() {
        ClockTeeth x = Due.of("figure plain 6 5 0;figure twin 5 7 0 0;figure both 2 5 7 0 0;");
        due("recut", x.recut(0, 60, 59), 6);
        due("recut again", x.recut(0, 2, 1), 60);
        due("teeth", x.figure(0, 1), 2);
        due("first", x.figure(0, 2), 1);
        due("recut gap", x.recut(1, 5, 0), BAD);
        due("recut gap just", x.recut(1, 6, 5), 7);
        due("recut both", x.recut(2, 5, 0), BAD);
        due("recut both just", x.recut(2, 6, 0), 7);
        due("round", x.figure(2, 6), 13);
        int[][] wrong = {{0, 1, 0}, {0, 61, 0}, {0, 5, 5}, {0, 5, -1}, {3, 5, 0}, {-1, 5, 0}, {0, 0, 0}, {0, -5, -6}};
        for (int[] w : wrong) {
            due("recut(" + w[0] + ", " + w[1] + ", " + w[2] + ")", x.recut(w[0], w[1], w[2]), BAD);
        }
        due("teeth stay", x.figure(0, 1), 2);
        due("first stays", x.figure(0, 2), 1);
    }

    private static void mends() {
        ClockTeeth x = Due.of("figure plain 6 0 0;figure plain 5 0 0;figure plain 5 0 0;figure plain 9 2 1;");
        // 0 is cut to 5 at 1; 1 then crashes with 2: 5 at 2; 2 crashes no more
        due("mend 0", x.mend(0), 2);
        due("mend 1", x.mend(1), 0);
        due("nothing changed", x.figure(0, 1), 6);
        due("still crash", x.count(0), 3);
        due("mend 2", x.mend(2), BAD);
        due("mend -1", x.mend(-1), BAD);
        // two come out each day: nobody can be cut as long as the other one does
        ClockTeeth y = Due.of("figure twin 1 2 0 0;figure twin 1 2 0 0;figure plain 7 3 0;");
        due("mend none", y.mend(0), 0);
        due("mend none, all crash", y.mend(1), 3);
        // 0 can not be cut as 1 is; 1 can (42 teeth and more), then 0 is past, but 2 can
        ClockTeeth z = Due.of("figure plain 6 0 0;figure twin 1 2 0 0;figure plain 7 3 0;");
        due("mend by numbers", z.mend(0), 2);
        due("mend by numbers, none crash", z.mend(1), 0);
    }

    private static void holds() {
        ClockTeeth x = Due.of("figure plain 6 0 0;figure both 2 5 7 0 1;figure plain 9 2 5;vote 3 1 8 2 0;vote 3 1 60 59 5;vote 8 0 5 3 5;");
        x.see(1, 4, true);
        due("hold -1", x.hold(-1), BAD);
        due("hold 4", x.hold(4), BAD);
        due("hold 0", x.hold(0), 0);
        due("votes stay", x.rule(5), 3);
        due("hold 1", x.hold(1), 2);
        due("kind", x.figure(1, 0), 0);
        due("teeth", x.figure(1, 1), 8);
        due("first", x.figure(1, 2), 2);
        due("door", x.figure(1, 3), 0);
        due("late", x.figure(1, 4), NONE);
        due("gap", x.figure(1, 5), NONE);
        due("round", x.figure(1, 6), 8);
        due("votes", x.rule(5), 2);
        due("moved up", x.vote(0, 2), 60);
        due("moved up, too", x.vote(1, 0), 8);
        due("seen stays", x.count(1), 1);
        // 60 at 59, 9 at 2, 5 at 3, all by door 5: 59 is 2 of 3, 4 of 5; so 59 with 9 crash, 5 with 9 crash
        due("hold 2", x.hold(2), 3);
        due("crash(1)", x.crash(1), 4);
        due("no votes", x.rule(5), 0);
        due("hold 1 of none", x.hold(1), BAD);
    }

    private static void asks() {
        ClockTeeth x = Due.of("figure plain 6 0 0;figure plain 6 0 1;");
        due("ask", x.ask(5, 1, 60, 59, 8), 1);
        int[][] wrong = {
            {4, 0, 5, 0, 0}, {100, 0, 5, 0, 0}, {5, 2, 5, 0, 0}, {5, -1, 5, 0, 0}, {5, 0, 1, 0, 0}, {5, 0, 61, 0, 0},
            {5, 0, 5, 5, 0}, {5, 0, 5, -1, 0}, {5, 0, 5, 0, 9}, {5, 0, 5, 0, -1}, {-1, 0, 5, 0, 0},
        };
        for (int[] w : wrong) {
            due("ask " + w[0] + " " + w[1] + " " + w[2] + " " + w[3] + " " + w[4], x.ask(w[0], w[1], w[2], w[3], w[4]), BAD);
        }
        due("still one", x.rule(5), 1);
        due("what it tells", x.vote(0, 1) * 1000 + x.vote(0, 2) * 10 + x.vote(0, 4), 1608);
        for (int i = 2; i <= 6; i++) {
            due("ask " + i, x.ask(99, 0, 5, 0, 0), i);
        }
        due("ask full", x.ask(99, 0, 5, 0, 0), FULL);
        due("ask full and bad", x.ask(98, 0, 5, 0, 0), BAD);
        due("hold 5", x.hold(5), 0);
        due("ask ahead", x.ask(98, 0, 5, 0, 0), BAD);
        due("hold the last", x.hold(1), 0);
        due("ask of none ahead", x.ask(0, 0, 5, 0, 0), 1);
    }

    private static void sees() {
        ClockTeeth x = Due.of("figure plain 6 0 0;");
        due("see -1", x.see(0, -1, true), BAD);
        due("see 30001", x.see(0, 30001, true), BAD);
        due("see(1)", x.see(1, 0, true), BAD);
        due("see(-1)", x.see(-1, 0, true), BAD);
        for (int i = 1; i <= 12; i++) {
            due("see " + i, x.see(0, i == 1 ? 30000 : 6 * (i - 2), true), i);
        }
        due("see full", x.see(0, 0, true), FULL);
        due("see full and bad", x.see(0, -1, true), BAD);
        due("forget 13", x.forget(13), BAD);
        due("forget -1", x.forget(-1), BAD);
        due("forget 12", x.forget(12), 12);
        due("forget 3", x.forget(3), 12);
        due("forget 4", x.forget(4), BAD);
        due("count", x.count(1), 3);
        due("see 4", x.see(0, 0, false), 4);
        due("does not fit", x.error(0), 3);
        due("forget the last", x.forget(3), 4);
        due("fits", x.error(0), 0);
        due("forget all", x.forget(0), 3);
        due("forget none", x.forget(0), 0);
    }

    private static void errors() {
        ClockTeeth x = Due.of("figure plain 6 5 0;figure plain 6 0 0;");
        due("error, nothing seen", x.error(0), 2);
        x.see(1, 1, true);
        due("error of another", x.error(0), 2);
        due("error counted from one", x.error(1), 1);
        x.see(0, 5, true);
        due("error fits", x.error(0), 0);
        x.forget(1);
        x.see(0, 6, true);
        due("error one more is 0", x.error(0), 1);
        x.see(0, 7, true);
        due("error neither", x.error(0), 3);
        x.forget(1);
        x.see(0, 7, false);
        due("error both", x.error(0), 2);
        due("error(2)", x.error(2), BAD);
        due("error(-1)", x.error(-1), BAD);
        ClockTeeth y = Due.of("figure both 2 3 10 9 0;");
        // round 21: 9 12, 19 22 (1); one more: 0 3, 10 13
        y.see(0, 1, true);
        due("error both kind", y.error(0), 0);
        y.forget(0);
        y.see(0, 13, true);
        due("error both kind one more", y.error(0), 1);
    }

    private static void wheelsThatFit() {
        ClockTeeth x = Due.of("figure worn 1 6 5 0;figure plain 6 0 0;");
        due("wheels, nothing seen", x.wheels(0, 0), 61 * 60 / 2 - 1);
        due("wheels teeth", x.wheels(0, 1), 2);
        due("wheels first", x.wheels(0, 2), 0);
        x.see(0, 100, true);
        due("wheels one seen", x.wheels(0, 0), 59);
        x.see(0, 107, true);
        due("wheels by 7", x.wheels(0, 0), 1);
        due("wheels teeth 7", x.wheels(0, 1), 7);
        due("wheels first 2", x.wheels(0, 2), 2);
        x.see(0, 108, true);
        due("wheels none", x.wheels(0, 0), 0);
        due("wheels none 1", x.wheels(0, 1), NONE);
        due("wheels none 2", x.wheels(0, 2), NONE);
        due("wheels of the other", x.wheels(1, 0), 1829);
        x.see(1, 0, false);
        x.see(1, 1, false);
        due("wheels neither", x.wheels(1, 0), 1829 - 118);
        due("wheels teeth 3", x.wheels(1, 1), 3);
        due("wheels first 2", x.wheels(1, 2), 2);
        due("wheels what 3", x.wheels(0, 3), BAD);
        due("wheels what -1", x.wheels(0, -1), BAD);
        due("wheels(2)", x.wheels(2, 0), BAD);
        due("wheels(-1)", x.wheels(-1, 0), BAD);
        x.forget(0);
        x.see(0, 59, true);
        x.see(0, 119, true);
        x.see(0, 89, false);
        x.see(0, 79, false);
        x.see(0, 71, false);
        // divisors of 60 that divide neither 30, 20 nor 12: 60 alone
        due("wheels 60", x.wheels(0, 0), 1);
        due("wheels 60 teeth", x.wheels(0, 1), 60);
        due("wheels 60 first", x.wheels(0, 2), 59);
    }

    private static void wornOnes() {
        ClockTeeth x = Due.of("figure plain 10 3 0;figure twin 4 10 3 0;figure worn 2 10 3 0;figure both 3 4 10 3 0;");
        due("worn, nothing seen", x.worn(0), 15);
        for (int f = 0; f < 4; f++) {
            x.forget(0);
            x.see(f, 3, true);
            x.see(f, 24, true);
            due("worn 24 of " + f, x.worn(f), 4);
            x.forget(1);
            x.see(f, 14, true);
            due("worn 14 of " + f, x.worn(f), 2);
            x.forget(1);
            x.see(f, 33, true);
            due("worn 33 of " + f, x.worn(f), 1);
            x.forget(1);
            x.see(f, 34, true);
            due("worn 34 of " + f, x.worn(f), 12);
            x.see(f, 7, true);
            due("worn gap of " + f, x.worn(f), f % 2 == 1 || f == 3 ? 12 : 0);
        }
        due("kind as before", x.figure(0, 0) + 10 * x.figure(2, 4), 20);
        due("worn(4)", x.worn(4), BAD);
        due("worn(-1)", x.worn(-1), BAD);
    }

    private static void frights() {
        ClockTeeth x = Due.of("figure plain 2 0 0;figure plain 3 0 8;reach 2;stick 8 10 19;");
        int[] many = {5, 5, 5, 0, 0, 0, 4, 4, 4};
        for (int place = 0; place < 9; place++) {
            due("fright " + place, x.fright(place, 0, 10), many[place]);
        }
        due("stand", x.stand(0, 10), 3);
        // stuck: 12, 15, 18 by door 0; days 10 12 14 15 16 18
        int[] stuck = {6, 6, 6, 0, 0, 0, 0, 0, 0};
        for (int place = 0; place < 9; place++) {
            due("fright stuck " + place, x.fright(place, 10, 10), stuck[place]);
        }
        due("stand 1", x.stand(1, 1), 0);
        due("stand at END", x.stand(END, 400), 3);
        due("fright n 0", x.fright(0, 0, 0), BAD);
        due("fright n 401", x.fright(0, 0, 401), BAD);
        due("fright place 9", x.fright(9, 0, 1), BAD);
        due("fright place -1", x.fright(-1, 0, 1), BAD);
        due("fright t -1", x.fright(0, -1, 1), BAD);
        due("fright t END + 1", x.fright(0, END + 1, 1), BAD);
        x.stick(NONE, 0, 0);
        due("fright behind END", x.fright(0, END, 400), 200);
        due("stand n 0", x.stand(0, 0), BAD);
        due("stand n 401", x.stand(0, 401), BAD);
        due("stand t -1", x.stand(-1, 1), BAD);
        due("stand t END + 1", x.stand(END + 1, 1), BAD);
        ClockTeeth y = Due.of("figure plain 2 0 4;reach 0;");
        due("fright reach 0", y.fright(4, 0, 2) * 100 + y.fright(3, 0, 2) * 10 + y.fright(5, 0, 2), 100);
        ClockTeeth z = Due.of("figure plain 2 0 3;figure plain 2 1 6;reach 3;");
        // 0 to 2: even days; 3 to 6 each day; 7 and 8: odd days
        due("stand reach 3", z.stand(0, 10), 0);
        due("stand reach 3, 11 days", z.stand(0, 11), 7);
    }

    private static void images() {
        ClockTeeth x = Due.of("figure plain 6 0 0;figure both 2 3 10 9 0;stick 1 2 3;reach 3;vote 5 1 7 0 0;");
        x.see(1, 1, true);
        due("back of none", x.back(0), STATE);
        due("keep 0", x.keep(0), 0);
        due("keep 0 again", x.keep(0), 1);
        due("keep 2", x.keep(2), BAD);
        due("keep -1", x.keep(-1), BAD);
        due("back 2", x.back(2), BAD);
        due("back -1", x.back(-1), BAD);
        due("back 1", x.back(1), STATE);
        due("images", x.count(2), 1);
        x.hold(1);
        x.recut(0, 9, 8);
        x.stick(NONE, 0, 0);
        x.see(0, 2, false);
        x.see(0, 3, false);
        due("keep 1", x.keep(1), 0);
        due("images 2", x.count(2), 2);
        for (int i = 0; i < 2; i++) {
            due("back 0", x.back(0), 2);
            due("votes again", x.rule(5), 1);
            due("kind again", x.figure(1, 0), 3);
            due("teeth again", x.figure(0, 1), 6);
            due("stick again", x.rule(1) * 100 + x.rule(2) * 10 + x.rule(3), 123);
            due("seen again", x.count(1), 1);
            due("fits again", x.error(1), 0);
            x.forget(0);
            x.recut(1, 20, 0);
        }
        due("back 1", x.back(1), 2);
        due("votes gone", x.rule(5), 0);
        due("kind plain", x.figure(1, 0), 0);
        due("teeth 9", x.figure(0, 1), 9);
        due("none sticks", x.rule(1), NONE);
        due("seen 3", x.count(1), 3);
        due("images stay", x.count(2), 2);
    }

    private static void sheets() {
        ClockTeeth x = Due.of("figure plain 6 0 0;");
        due("sheet k 4", x.sheet(4, 0, 1), BAD);
        due("sheet k -1", x.sheet(-1, 0, 1), BAD);
        due("sheet lane 3", x.sheet(0, 3, 1), BAD);
        due("sheet lane -1", x.sheet(0, -1, 1), BAD);
        due("sheet n 41", x.sheet(0, 0, 41), BAD);
        due("sheet n -1", x.sheet(0, 0, -1), -14);
        due("sheet lane 3, n -1", x.sheet(0, 3, -1), BAD);
        due("still nothing", x.count(4), NONE);
        due("sheet 0", x.sheet(0, 0, 0), 1);
        due("cells 0", x.count(4), 0);
        due("lay in none", x.lay(0, 0, 0), -12);
        due("sheet 40", x.sheet(0, 2, 40), 1);
        due("cells 40", x.count(4), 40);
        due("lay 39", x.lay(0, 39, 1), 1);
        due("lay 40", x.lay(0, 40, 1), -12);
        due("lay -1", x.lay(0, -1, 1), -12);
        due("lay lowest", x.lay(0, Integer.MIN_VALUE, 1), -12);
        due("lay highest", x.lay(0, Integer.MAX_VALUE, 1), -12);
        due("lay k 4", x.lay(4, 0, 1), BAD);
        due("lay k -1", x.lay(-1, 0, 1), BAD);
        due("lay of nothing", x.lay(3, 0, 1), -11);
        due("lay of nothing, no cell", x.lay(3, -1, 1), -11);
        // the lowest bits: 256 is 0 as a byte, 65536 as a short, neither as an int
        for (int lane = 0; lane < 3; lane++) {
            x.sheet(1, lane, 3);
            x.lay(1, 0, 256);
            x.lay(1, 2, 257);
            due("read 256 of lane " + lane, x.read(1, lane, 0, 1), lane == 0 ? 1 : -20);
            x.lay(1, 0, 65536);
            x.lay(1, 2, -65535);
            due("read 65536 of lane " + lane, x.read(1, lane, 0, 1), lane < 2 ? 1 : -20);
            x.lay(1, 0, 0);
            x.lay(1, 2, 1);
            x.lay(1, 1, 200);
            due("read 200 of lane " + lane, x.read(1, lane, 0, 1), lane == 0 ? -20 : 1);
            x.lay(1, 1, 40000);
            due("read 40000 of lane " + lane, x.read(1, lane, 0, 1), lane == 0 ? 1 : -20);
            x.forget(0);
        }
        for (int i = 0; i < 3; i++) {
            x.sheet(1, 2, 3);
            x.lay(1, i, 99999);
            due("a cell that see() refuses", x.read(1, 2, 0, 1), -20);
            x.sheet(1, 2, 3);
            due("a new row is 0", x.read(1, 2, 0, 1), 1);
        }
    }

    private static void reads() {
        ClockTeeth x = Due.of("figure plain 6 0 0;figure plain 6 1 0;");
        due("read k 4", x.read(4, 0, 0, 0), BAD);
        due("read k -1", x.read(-1, 0, 0, 0), BAD);
        due("read lane 3", x.read(0, 3, 0, 0), BAD);
        due("read lane -1", x.read(0, -1, 0, 0), BAD);
        due("read n 13", x.read(0, 0, 0, 13), BAD);
        due("read n -1", x.read(0, 0, 0, -1), BAD);
        due("read of nothing", x.read(0, 0, 0, 1), 0);
        due("torn NULL", x.torn(), 1);
        due("read bad leaves it", x.read(0, 0, 0, 13), BAD);
        due("torn NULL still", x.torn(), 1);
        due("read n 0 of nothing", x.read(0, 0, -9, 0), 0);
        due("torn 0", x.torn(), 0);
        x.sheet(0, 1, 11);
        int[] cells = {7, 0, 0, 1, 1, 7, 1, 0, 1, 1, 9};
        for (int i = 0; i < cells.length; i++) {
            x.lay(0, i, cells[i]);
        }
        due("read CAST", x.read(0, 2, 0, 1), 0);
        due("torn CAST", x.torn(), 3);
        due("read CAST ahead of INDEX", x.read(0, 0, -1, 1), 0);
        due("torn CAST again", x.torn(), 3);
        due("read n 0 of another lane", x.read(0, 0, 0, 0), 0);
        due("torn of it", x.torn(), 0);
        due("read INDEX", x.read(0, 1, -1, 1), 0);
        due("torn INDEX", x.torn(), 2);
        due("read refused", x.read(0, 1, 0, 1), -20);
        due("torn stays", x.torn(), 2);
        due("read highest", x.read(0, 1, Integer.MAX_VALUE, 2), 0);
        due("read lowest", x.read(0, 1, Integer.MIN_VALUE, 2), 0);
        // 0 0 1, 1 7 1, 0 1 1, 9 ..
        due("read 3 whole", x.read(0, 1, 1, 3), 3);
        due("torn of the whole", x.torn(), 0);
        due("seen 3", x.count(1), 3);
        due("error 0", x.error(0), 3);
        due("error 1", x.error(1), 0);
        x.forget(0);
        due("read 12, 3 whole", x.read(0, 1, 1, 12), 3);
        due("torn INDEX again", x.torn(), 2);
        due("seen 3 again", x.count(1), 3);
        due("read from 8", x.read(0, 1, 8, 1), -20);
        x.lay(0, 10, 1);
        due("read from 8 now", x.read(0, 1, 8, 1), 1);
        due("read from 9", x.read(0, 1, 9, 1), 0);
        x.forget(0);
        x.lay(0, 9, 2);
        due("third cell 9 is the second then", x.read(0, 1, 1, 3), -22);
        due("none came", x.count(1), 0);
        x.lay(0, 9, -1);
        due("third cell -1", x.read(0, 1, 1, 3), -22);
        x.lay(0, 9, 0);
        x.lay(0, 1, 2);
        due("no such figure", x.read(0, 1, 1, 3), -20);
        x.lay(0, 1, 0);
        due("third cell 0", x.read(0, 1, 1, 3), 3);
        due("not seen on day 1", x.error(0), 0);
        x.forget(0);
        x.sheet(3, 2, 39);
        due("read 12 of 13", x.read(3, 2, 0, 12), 12);
        due("full", x.read(3, 2, 0, 1), -20);
        x.forget(7);
        due("full by the 5th", x.read(3, 2, 0, 6), -25);
        due("none came when full", x.count(1), 7);
        due("just full", x.read(3, 2, 0, 5), 5);
        x.forget(10);
        x.sheet(3, 2, 8);
        due("two whole, then torn", x.read(3, 2, 0, 12), 2);
        due("torn at the end", x.torn(), 2);
        due("full now", x.count(1), 12);
    }

    private static void counts() {
        ClockTeeth x = Due.of("figure plain 6 0 0;figure plain 6 0 0;figure plain 6 1 0;figure plain 6 0 1;");
        due("who crash", x.count(0), 2);
        x.feed(1);
        due("bytes", x.count(3), 8);
        x.sheet(1, 0, 9);
        due("cells of 0", x.count(4), NONE);
        x.sheet(0, 0, 7);
        due("cells 7", x.count(4), 7);
        due("count 5", x.count(5), BAD);
        due("count -1", x.count(-1), BAD);
    }
}
