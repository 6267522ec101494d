import java.util.Random;

/** Long runs of chosen calls, each answer held against NaiveClock's; the seeds are fixed, so that each run is the same. */
public final class ModelTest {
    private static final long END = NaiveClock.END;
    private static final int RUNS = 400;
    private static final int CALLS = 200;
    private static final int[] ODD = {
        -1, -2, -4, Integer.MIN_VALUE, Integer.MAX_VALUE, 6, 7, 9, 61, 64, 100, 366, 401, 30001, 10000,
    };

    private final Due due = new Due();
    private final Random dice;
    private final ClockTeeth x = new ClockTeeth();
    private final NaiveClock y = new NaiveClock();

    private ModelTest(long seed) {
        dice = new Random(seed);
    }

    public static void main(String[] args) {
        int runs = args.length > 0 ? Integer.parseInt(args[0]) : RUNS;
        int wrong = 0;
        for (int run = 0; run < runs; run++) {
            ModelTest test = new ModelTest(run);
            test.run();
            if (test.due.wrong() > 0) {
                System.out.println("in run " + run);
                wrong++;
            }
        }
        System.out.println("ModelTest: " + runs + " runs of " + CALLS + " calls, " + wrong + " not as due");
        if (wrong != 0) {
            System.exit(1);
        }
    }

    private void run() {
        tellSome(true);
        for (int i = 0; i < CALLS && due.wrong() == 0; i++) {
            call(dice.nextInt(44));
        }
    }

    // ---- numbers: most as the document wants them, some at its edges or beyond

    private boolean seldom() {
        return dice.nextInt(25) == 0;
    }

    private int pick(int least, int most) {
        if (seldom()) {
            return ODD[dice.nextInt(ODD.length)];
        }
        if (dice.nextInt(6) == 0) {
            return dice.nextBoolean() ? least : most;
        }
        return least + dice.nextInt(most - least + 1);
    }

    private int who() {
        int many = y.rule(0);
        return many == 0 ? pick(0, 1) : pick(0, many - 1);
    }

    private long when() {
        switch (dice.nextInt(8)) {
            case 0: return END - dice.nextInt(500);
            case 1: return seldom() ? dice.nextLong() : (long) (dice.nextDouble() * END);
            case 2: return seldom() ? -1 - dice.nextInt(3) : dice.nextInt(3);
            case 3: return seldom() ? END + 1 : END;
            default: return dice.nextInt(5000);
        }
    }

    // ---- texts

    private String number(int least, int most) {
        if (dice.nextInt(60) == 0) {
            return String.valueOf(most + 1);
        }
        int n = least + dice.nextInt(most - least + 1);
        return dice.nextInt(12) == 0 && n < 100 ? "0" + n : String.valueOf(n);
    }

    private String wheel() {
        int small = dice.nextInt(3) > 0 ? 12 : 60;
        int teeth = 2 + dice.nextInt(small - 1);
        String gap = number(1, Math.max(1, teeth - 1));
        String late = number(1, 3);
        String[] kinds = {"plain ", "worn " + late + " ", "twin " + gap + " ", "both " + late + " " + gap + " "};
        return "figure " + kinds[dice.nextInt(4)] + teeth + " " + number(0, teeth - 1) + " " + number(0, dice.nextBoolean() ? 1 : 8) + ";";
    }

    private String someText() {
        StringBuilder s = new StringBuilder();
        int figures = dice.nextInt(8) == 0 ? dice.nextInt(8) : 2 + dice.nextInt(5);
        for (int i = 0; i < figures; i++) {
            s.append(wheel());
        }
        if (dice.nextInt(3) > 0) {
            int from = dice.nextInt(366);
            s.append("stick ").append(number(0, 8)).append(' ').append(from).append(' ').append(number(from, 365)).append(';');
        }
        if (dice.nextBoolean()) {
            s.append(" reach ").append(number(0, 3)).append("; ");
        }
        int year = dice.nextInt(20);
        for (int i = dice.nextInt(20) == 0 ? 7 : dice.nextInt(5); i > 0; i--) {
            int teeth = 2 + dice.nextInt(59);
            s.append("vote ").append(year).append(' ').append(number(0, Math.max(0, figures - 1))).append(' ').append(teeth);
            s.append(' ').append(number(0, teeth - 1)).append(' ').append(number(0, 8)).append(';');
            year += dice.nextInt(20);
        }
        return s.toString();
    }

    private String spoilt(String text) {
        String signs = " ;;  0159aefgrz.-\n";
        String[] words = {"figure", "plain", "worn", "twin", "both", "stick", "reach", "vote", "60", "1000", ";", " "};
        StringBuilder s = new StringBuilder(text);
        for (int i = 1 + dice.nextInt(2); i > 0 && s.length() > 0; i--) {
            int at = dice.nextInt(s.length());
            switch (dice.nextInt(5)) {
                case 0: s.deleteCharAt(at); break;
                case 1: s.insert(at, signs.charAt(dice.nextInt(signs.length()))); break;
                case 2: s.setCharAt(at, dice.nextInt(4) == 0 ? (char) dice.nextInt(256) : signs.charAt(dice.nextInt(signs.length()))); break;
                case 3: s.insert(at, words[dice.nextInt(words.length)]); break;
                default: s.setLength(at); break;
            }
        }
        return s.toString();
    }

    private void tellSome(boolean whole) {
        String text = someText();
        if (!whole && dice.nextInt(3) > 0) {
            text = spoilt(text);
        }
        for (int at = 0; at < text.length(); at += 8) {
            long v = Due.eightOf(text, at);
            due.due("feed", x.feed(v), y.feed(v));
        }
        if (text.length() <= 400) {
            due.due("end", x.end(text.length()), y.end(text.length()));
        }
        due.due("text of " + text, x.text(), y.text());
        due.due("fault of " + text, x.fault(), y.fault());
    }

    // ---- calls

    private void call(int which) {
        int f = who();
        int g = who();
        long t = when();
        if (which < 16) {
            callOnes(which, f, g, t);
        } else if (which < 29) {
            callDoors(which, f, t);
        } else {
            callSeen(which, f, t);
        }
    }

    private void callOnes(int which, int f, int g, long t) {
        long to = dice.nextInt(4) == 0 ? when() : Math.min(END, t + dice.nextInt(3000));
        int some = dice.nextInt(20) == 0 ? pick(-3, 70) : pick(1, Math.max(1, (1 << y.rule(0)) - 1));
        int what = pick(0, 6);
        switch (which) {
            case 0: if (dice.nextInt(3) == 0) { tellSome(false); } break;
            case 1: due.due("rule", x.rule(what), y.rule(what)); break;
            case 2: due.due("figure", x.figure(f, what), y.figure(f, what)); break;
            case 3: due.due("vote", x.vote(g, what), y.vote(g, what)); break;
            case 4: due.due("out", x.out(f, t), y.out(f, t)); break;
            case 5: due.due("next", x.next(f, t), y.next(f, t)); break;
            case 6: due.due("last", x.last(f, t), y.last(f, t)); break;
            case 7: due.due("often", x.often(f, t, to), y.often(f, t, to)); break;
            case 8: due.due("together", x.together(f, g, t), y.together(f, g, t)); break;
            case 9: due.due("meetings", x.meetings(f, g, t, to), y.meetings(f, g, t, to)); break;
            case 10: case 11: due.due("all " + some + " " + t, x.all(some, t), y.all(some, t)); break;
            case 12: due.due("cycle", x.cycle(some), y.cycle(some)); break;
            case 13: due.due("crash", x.crash(f), y.crash(f)); break;
            case 14: what = pick(0, 1); due.due("first", x.first(t, what), y.first(t, what)); break;
            default: due.due("fault", x.fault(), y.fault()); break;
        }
    }

    private void callDoors(int which, int f, long t) {
        int what = pick(0, 1);
        int year = pick(0, 9999);
        int d = pick(0, 365);
        int to = pick(0, 365);
        int n = pick(1, 400);
        int teeth = pick(2, 60);
        int start = pick(0, Math.max(2, Math.min(teeth, 60)) - 1);
        int door = pick(0, 8);
        switch (which) {
            case 16: due.due("date", x.date(t, what), y.date(t, what)); break;
            case 17: due.due("day", x.day(year, d), y.day(year, d)); break;
            case 18: due.due("by", x.by(f, t), y.by(f, t)); break;
            case 19: due.due("clashes", x.clashes(t, n), y.clashes(t, n)); break;
            case 20:
                if (dice.nextInt(4) == 0) {
                    due.due("stick none", x.stick(-4, 0, 0), y.stick(-4, 0, 0));
                } else {
                    due.due("stick", x.stick(door, d, to), y.stick(door, d, to));
                }
                break;
            case 21: due.due("cut", x.cut(f, what), y.cut(f, what)); break;
            case 22: due.due("turn", x.turn(f), y.turn(f)); break;
            case 23: due.due("recut", x.recut(f, teeth, start), y.recut(f, teeth, start)); break;
            case 24: if (dice.nextInt(4) == 0) { due.due("mend", x.mend(what), y.mend(what)); } break;
            case 25: n = pick(0, 2); due.due("hold", x.hold(n), y.hold(n)); break;
            case 26: year = pick(0, 99); due.due("ask", x.ask(year, f, teeth, start, door), y.ask(year, f, teeth, start, door)); break;
            case 27: if (dice.nextInt(3) == 0) { due.due("stand", x.stand(t, n), y.stand(t, n)); } break;
            default: due.due("fright", x.fright(door, t, n), y.fright(door, t, n)); break;
        }
    }

    private void callSeen(int which, int f, long t) {
        int what = pick(0, 2);
        int d = pick(0, dice.nextInt(3) == 0 ? 30000 : 40);
        boolean was = dice.nextInt(3) > 0 ? y.out(f, d) == 1 : dice.nextBoolean();
        int k = pick(0, 3);
        int lane = pick(0, 2);
        int cell = pick(0, 9);
        int n = pick(0, 12);
        switch (which) {
            case 29: case 30: due.due("see", x.see(f, d, was), y.see(f, d, was)); break;
            case 31: due.due("forget", x.forget(n), y.forget(n)); break;
            case 32: due.due("error", x.error(f), y.error(f)); break;
            case 33: due.due("wheels", x.wheels(f, what), y.wheels(f, what)); break;
            case 34: due.due("worn", x.worn(f), y.worn(f)); break;
            case 35: what = pick(0, 1); due.due("keep", x.keep(what), y.keep(what)); break;
            case 36: what = pick(0, 1); due.due("back", x.back(what), y.back(what)); break;
            case 37: n = pick(-1, 40); due.due("sheet", x.sheet(k, lane, n), y.sheet(k, lane, n)); break;
            case 38: layThree(k, cell, f, d); break;
            case 39: due.due("lay", x.lay(k, cell, d), y.lay(k, cell, d)); break;
            case 40: case 41:
                due.due("read", x.read(k, lane, cell, n), y.read(k, lane, cell, n));
                due.due("torn", x.torn(), y.torn());
                break;
            case 42: what = pick(0, 4); due.due("count", x.count(what), y.count(what)); break;
            default: due.due("feed of chance", x.feed(t), y.feed(t)); due.due("end of it", x.end(0), y.end(0)); break;
        }
    }

    private void layThree(int k, int cell, int f, int d) {
        int[] three = {f, d, dice.nextInt(8) == 0 ? 2 : dice.nextInt(2)};
        int from = Math.max(0, Math.min(cell, 40)) / 3 * 3;
        for (int i = 0; i < 3; i++) {
            due.due("lay of three", x.lay(k, from + i, three[i]), y.lay(k, from + i, three[i]));
        }
    }
}
