import java.util.ArrayList;
import java.util.List;
import java.util.TreeSet;
import java.util.regex.Matcher;
import java.util.regex.Pattern;

/** The document told a second time, day by day and by sets, however slow: what ClockTeeth is held against. */
final class NaiveClock {
    static final int BAD = -1, STATE = -2, FULL = -3, NONE = -4;
    static final long END = 1000000000000L;

    record Wheel(int kind, int teeth, int first, int door, int late, int gap) {
        int round() {
            return kind % 2 == 1 ? late * teeth + 1 : teeth;
        }

        /** Goes round twice as the document tells it, then back by a round as if it had always been so. */
        TreeSet<Integer> rests() {
            TreeSet<Integer> found = new TreeSet<>();
            int day = first;
            int time = 0;
            while (day < first + 2 * round()) {
                found.add(day % round());
                if (kind >= 2) {
                    found.add((day + gap) % round());
                }
                time++;
                day += teeth;
                if (kind % 2 == 1 && time % late == 0) {
                    day++;
                }
            }
            return found;
        }

        boolean on(long t) {
            return rests().contains((int) (t % round()));
        }
    }

    record Ballot(int year, int goes, int teeth, int first, int door) { }

    record Seen(int who, int day, boolean was) { }

    /** What an image keeps. */
    static final class Told {
        List<Wheel> wheels = new ArrayList<>();
        List<Ballot> votes = new ArrayList<>();
        List<Seen> seen = new ArrayList<>();
        int door = NONE, from = NONE, to = NONE, reach = 1;

        Told copy() {
            Told c = new Told();
            c.wheels.addAll(wheels);
            c.votes.addAll(votes);
            c.seen.addAll(seen);
            c.door = door;
            c.from = from;
            c.to = to;
            c.reach = reach;
            return c;
        }
    }

    private Told now = new Told();
    private final Told[] image = new Told[2];
    private final int[][] sheet = new int[4][];
    private final int[] lanes = new int[4];
    private String tape = "";
    private int fault = 0;
    private int torn = 0;

    // ---- the text

    int feed(long v) {
        if (tape.length() + 8 > 400) {
            return FULL;
        }
        for (int shift = 56; shift >= 0; shift -= 8) {
            tape += (char) (v >> shift & 255);
        }
        return tape.length();
    }

    int end(int n) {
        if (n < 0 || n > tape.length()) {
            return BAD;
        }
        int had = tape.length();
        tape = tape.substring(0, n);
        return had;
    }

    private static final Pattern TOKEN = Pattern.compile(" *([a-z]+|[0-9]+|;|\\z|.)", Pattern.DOTALL);

    private static final class Fault extends Exception {
        private static final long serialVersionUID = 1;
        final int number;
        final int place;

        Fault(int number, int place) {
            this.number = number;
            this.place = place;
        }
    }

    private Matcher tokens;
    private String token;
    private int at;

    private void take() throws Fault {
        if (!tokens.find()) {
            throw new IllegalStateException("the model's own tokens ended");
        }
        token = tokens.group(1);
        at = tokens.start(1);
        if (!token.matches("[a-z]+|[0-9]{1,3}|;|")) {
            throw new Fault(1, at);
        }
    }

    private int number(int least, int most) throws Fault {
        take();
        if (!token.matches("[0-9]+")) {
            throw new Fault(2, at);
        }
        int n = Integer.parseInt(token);
        if (n < least || n > most) {
            throw new Fault(3, at);
        }
        return n;
    }

    private void sign() throws Fault {
        take();
        if (!token.equals(";")) {
            throw new Fault(2, at);
        }
    }

    int text() {
        tokens = TOKEN.matcher(tape);
        int length = tape.length();
        tape = "";
        try {
            Told told = new Told();
            int lines = lines(told);
            for (Ballot b : told.votes) {
                if (b.goes >= told.wheels.size()) {
                    throw new Fault(6, length);
                }
            }
            now = told;
            image[0] = image[1] = null;
            fault = 0;
            return lines;
        } catch (Fault f) {
            fault = f.number;
            return -10 - f.place;
        }
    }

    private int lines(Told told) throws Fault {
        boolean reach = false;
        int lines = 0;
        for (take(); !token.isEmpty(); take()) {
            lines++;
            int name = at;
            if (token.equals("figure")) {
                if (told.wheels.size() == 6) {
                    throw new Fault(5, name);
                }
                told.wheels.add(wheelLine());
            } else if (token.equals("vote")) {
                if (told.votes.size() == 6) {
                    throw new Fault(5, name);
                }
                int ahead = told.votes.isEmpty() ? 0 : told.votes.get(told.votes.size() - 1).year;
                int year = number(ahead, 99);
                int goes = number(0, 5);
                int teeth = number(2, 60);
                told.votes.add(new Ballot(year, goes, teeth, number(0, teeth - 1), number(0, 8)));
            } else if (token.equals("stick")) {
                if (told.door != NONE) {
                    throw new Fault(4, name);
                }
                told.door = number(0, 8);
                told.from = number(0, 365);
                told.to = number(told.from, 365);
            } else if (token.equals("reach")) {
                if (reach) {
                    throw new Fault(4, name);
                }
                reach = true;
                told.reach = number(0, 3);
            } else {
                throw new Fault(2, name);
            }
            sign();
        }
        return lines;
    }

    private Wheel wheelLine() throws Fault {
        take();
        int kind = List.of("plain", "worn", "twin", "both").indexOf(token);
        if (kind < 0) {
            throw new Fault(2, at);
        }
        int late = kind % 2 == 1 ? number(1, 3) : 0;
        int gap = kind >= 2 ? number(1, 59) : 0;
        int teeth = number(2, 60);
        if (teeth <= gap) {
            throw new Fault(4, at);
        }
        int first = number(0, 59);
        if (first >= teeth) {
            throw new Fault(4, at);
        }
        return new Wheel(kind, teeth, first, number(0, 8), late, gap);
    }

    int fault() {
        return fault;
    }

    int rule(int what) {
        int[] all = {now.wheels.size(), now.door, now.from, now.to, now.reach, now.votes.size()};
        return what < 0 || what > 5 ? BAD : all[what];
    }

    private boolean no(int f) {
        return f < 0 || f >= now.wheels.size();
    }

    private static boolean noDay(long t) {
        return t < 0 || t > END;
    }

    int figure(int f, int what) {
        if (no(f) || what < 0 || what > 6) {
            return BAD;
        }
        Wheel w = now.wheels.get(f);
        int[] all = {w.kind, w.teeth, w.first, w.door, w.kind % 2 == 1 ? w.late : NONE, w.kind >= 2 ? w.gap : NONE, w.round()};
        return all[what];
    }

    int vote(int v, int what) {
        if (v < 0 || v >= now.votes.size() || what < 0 || what > 4) {
            return BAD;
        }
        Ballot b = now.votes.get(v);
        return new int[] {b.year, b.goes, b.teeth, b.first, b.door}[what];
    }

    // ---- one

    int out(int f, long t) {
        return no(f) || noDay(t) ? BAD : now.wheels.get(f).on(t) ? 1 : 0;
    }

    long next(int f, long t) {
        if (no(f) || noDay(t)) {
            return BAD;
        }
        for (long d = t; d <= END && d < t + 200; d++) {
            if (now.wheels.get(f).on(d)) {
                return d;
            }
        }
        return NONE;
    }

    long last(int f, long t) {
        if (no(f) || noDay(t)) {
            return BAD;
        }
        for (long d = t; d >= 0 && d > t - 200; d--) {
            if (now.wheels.get(f).on(d)) {
                return d;
            }
        }
        return NONE;
    }

    long often(int f, long from, long to) {
        return no(f) || noDay(from) || noDay(to) || to < from ? BAD : days(1 << f, from, to);
    }

    /** Days up to one are whole cycles and a part of one: walked through but once. */
    private long days(int some, long from, long to) {
        long cycle = cycle(some);
        boolean[] on = new boolean[(int) cycle];
        long each = 0;
        for (int r = 0; r < cycle; r++) {
            on[r] = allOn(some, r);
            each += on[r] ? 1 : 0;
        }
        long wide = to - from + 1;
        long found = wide / cycle * each;
        for (long d = to - wide % cycle + 1; d <= to; d++) {
            found += on[(int) (d % cycle)] ? 1 : 0;
        }
        return found;
    }

    private boolean allOn(int some, long t) {
        for (int f = 0; f < now.wheels.size(); f++) {
            if ((some >> f & 1) == 1 && !now.wheels.get(f).on(t)) {
                return false;
            }
        }
        return true;
    }

    // ---- several

    long together(int f, int g, long t) {
        return no(f) || no(g) || f == g || noDay(t) ? BAD : all(1 << f | 1 << g, t);
    }

    long meetings(int f, int g, long from, long to) {
        return no(f) || no(g) || f == g || noDay(from) || noDay(to) || to < from ? BAD : days(1 << f | 1 << g, from, to);
    }

    private boolean noSome(int some) {
        return some <= 0 || some >> now.wheels.size() != 0;
    }

    /** A sieve: the days, of a cycle from t on, on which those ahead come out, are tried out with the next one. */
    long all(int some, long t) {
        if (noSome(some) || noDay(t)) {
            return BAD;
        }
        List<Long> days = List.of(0L);
        long cycle = 1;
        for (int f = 0; f < now.wheels.size(); f++) {
            if ((some >> f & 1) == 1) {
                Wheel w = now.wheels.get(f);
                TreeSet<Integer> rests = w.rests();
                long longer = lcm(cycle, w.round());
                List<Long> more = new ArrayList<>();
                for (long d : days) {
                    for (long e = d; e < longer && t + e <= END; e += cycle) {
                        if (rests.contains((int) ((t + e) % w.round()))) {
                            more.add(e);
                        }
                    }
                }
                days = more;
                cycle = longer;
            }
        }
        long best = NONE;
        for (long d : days) {
            if (best == NONE || t + d < best) {
                best = t + d;
            }
        }
        return best;
    }

    private static long lcm(long a, long b) {
        long c = a;
        while (c % b != 0) {
            c += a;
        }
        return c;
    }

    long cycle(int some) {
        if (noSome(some)) {
            return BAD;
        }
        long c = 1;
        for (int f = 0; f < now.wheels.size(); f++) {
            if ((some >> f & 1) == 1) {
                c = lcm(c, now.wheels.get(f).round());
            }
        }
        return c;
    }

    private static boolean crash(Wheel a, Wheel b) {
        if (a.door != b.door) {
            return false;
        }
        TreeSet<Integer> one = a.rests();
        TreeSet<Integer> other = b.rests();
        // each pair of rests: some day of b's is tried with a, through all of a's rounds
        for (int rest : other) {
            for (int i = 0; i < a.round(); i++) {
                if (one.contains((int) ((rest + (long) i * b.round()) % a.round()))) {
                    return true;
                }
            }
        }
        return false;
    }

    private static int crashes(List<Wheel> wheels, int f) {
        int bits = 0;
        for (int g = 0; g < wheels.size(); g++) {
            bits |= g != f && crash(wheels.get(f), wheels.get(g)) ? 1 << g : 0;
        }
        return bits;
    }

    private static int crashing(List<Wheel> wheels) {
        int many = 0;
        for (int f = 0; f < wheels.size(); f++) {
            many += crashes(wheels, f) != 0 ? 1 : 0;
        }
        return many;
    }

    int crash(int f) {
        return no(f) ? BAD : crashes(now.wheels, f);
    }

    long first(long t, int what) {
        if (noDay(t) || what < 0 || what > 1) {
            return BAD;
        }
        long best = NONE;
        int pair = NONE;
        for (int f = now.wheels.size() - 1; f >= 0; f--) {
            for (int g = now.wheels.size() - 1; g > f; g--) {
                long met = crash(now.wheels.get(f), now.wheels.get(g)) ? all(1 << f | 1 << g, t) : NONE;
                if (met != NONE && (best == NONE || met <= best)) {
                    best = met;
                    pair = 10 * f + g;
                }
            }
        }
        return what == 0 ? best : pair;
    }

    // ---- years, doors

    /** Four centuries of years at once as far as may be, then year by year. */
    private static long[] dateOf(long t) {
        long year = 0;
        long left = t;
        long many = left / 146100;
        year += many * 400;
        left -= many * 146100;
        while (left >= (year % 4 == 0 ? 366 : 365)) {
            left -= year % 4 == 0 ? 366 : 365;
            year++;
        }
        return new long[] {year, left};
    }

    long date(long t, int what) {
        return noDay(t) || what < 0 || what > 1 ? BAD : dateOf(t)[what];
    }

    long day(int year, int d) {
        if (year < 0 || year > 9999 || d < 0 || d > 365 || d == 365 && year % 4 != 0) {
            return BAD;
        }
        long t = d;
        for (int y = 0; y < year; y++) {
            t += y % 4 == 0 ? 366 : 365;
        }
        return t;
    }

    private int doorOn(Wheel w, long t) {
        long d = dateOf(t)[1];
        return w.door == now.door && d >= now.from && d <= now.to ? (w.door + 1) % 9 : w.door;
    }

    int by(int f, long t) {
        return no(f) || noDay(t) ? BAD : now.wheels.get(f).on(t) ? doorOn(now.wheels.get(f), t) : NONE;
    }

    private int[] used(long t) {
        int[] used = new int[9];
        for (Wheel w : now.wheels) {
            if (w.on(t)) {
                used[doorOn(w, t)]++;
            }
        }
        return used;
    }

    int clashes(long t, int n) {
        if (noDay(t) || n < 1 || n > 400) {
            return BAD;
        }
        int many = 0;
        for (long d = t; d < t + n; d++) {
            boolean clash = false;
            for (int u : used(d)) {
                clash |= u > 1;
            }
            many += clash ? 1 : 0;
        }
        return many;
    }

    int stick(int door, int from, int to) {
        int did = now.door == NONE ? 0 : 1;
        if (door == NONE && from == 0 && to == 0) {
            now.door = now.from = now.to = NONE;
            return did;
        }
        if (door < 0 || door > 8 || from < 0 || from > 365 || to < from || to > 365) {
            return BAD;
        }
        now.door = door;
        now.from = from;
        now.to = to;
        return did;
    }

    // ---- wheels

    private static Wheel with(Wheel w, int teeth, int first) {
        return new Wheel(w.kind, teeth, first, w.door, w.late, w.gap);
    }

    private static boolean alone(List<Wheel> wheels, int f, Wheel w) {
        List<Wheel> other = new ArrayList<>(wheels);
        other.set(f, w);
        return crashes(other, f) == 0;
    }

    private static Wheel cutOf(List<Wheel> wheels, int f) {
        Wheel w = wheels.get(f);
        Wheel best = null;
        for (int teeth = 2; teeth <= 60; teeth++) {
            int change = Math.abs(teeth - w.teeth);
            if (w.kind >= 2 && w.gap >= teeth || best != null && change >= Math.abs(best.teeth - w.teeth)) {
                continue;
            }
            for (int first = 0; first < teeth; first++) {
                if (alone(wheels, f, with(w, teeth, first))) {
                    best = with(w, teeth, first);
                    break;
                }
            }
        }
        return best;
    }

    int cut(int f, int what) {
        if (no(f) || what < 0 || what > 1) {
            return BAD;
        }
        Wheel w = cutOf(now.wheels, f);
        return w == null ? NONE : what == 0 ? w.teeth : w.first;
    }

    int turn(int f) {
        if (no(f)) {
            return BAD;
        }
        Wheel w = now.wheels.get(f);
        for (int later = 0; later < w.teeth; later++) {
            if (alone(now.wheels, f, with(w, w.teeth, (w.first + later) % w.teeth))) {
                return (w.first + later) % w.teeth;
            }
        }
        return NONE;
    }

    int recut(int f, int teeth, int first) {
        if (no(f) || teeth < 2 || teeth > 60 || first < 0 || first >= teeth) {
            return BAD;
        }
        Wheel w = now.wheels.get(f);
        if (w.kind >= 2 && w.gap >= teeth) {
            return BAD;
        }
        now.wheels.set(f, with(w, teeth, first));
        return w.teeth;
    }

    int mend(int what) {
        if (what < 0 || what > 1) {
            return BAD;
        }
        List<Wheel> would = new ArrayList<>(now.wheels);
        int mended = 0;
        for (int f = 0; f < would.size(); f++) {
            Wheel w = crashes(would, f) == 0 ? null : cutOf(would, f);
            if (w != null) {
                would.set(f, w);
                mended++;
            }
        }
        return what == 0 ? mended : crashing(would);
    }

    int hold(int n) {
        if (n < 0 || n > now.votes.size()) {
            return BAD;
        }
        for (int i = 0; i < n; i++) {
            Ballot b = now.votes.remove(0);
            now.wheels.set(b.goes, new Wheel(0, b.teeth, b.first, b.door, 0, 0));
        }
        return crashing(now.wheels);
    }

    int ask(int year, int f, int teeth, int first, int door) {
        int many = now.votes.size();
        int ahead = many == 0 ? 0 : now.votes.get(many - 1).year;
        if (year < ahead || year > 99 || no(f) || teeth < 2 || teeth > 60 || first < 0 || first >= teeth || door < 0 || door > 8) {
            return BAD;
        }
        if (many == 6) {
            return FULL;
        }
        now.votes.add(new Ballot(year, f, teeth, first, door));
        return many + 1;
    }

    // ---- seen

    int see(int f, int t, boolean was) {
        if (no(f) || t < 0 || t > 30000) {
            return BAD;
        }
        if (now.seen.size() == 12) {
            return FULL;
        }
        now.seen.add(new Seen(f, t, was));
        return now.seen.size();
    }

    int forget(int n) {
        int had = now.seen.size();
        if (n < 0 || n > had) {
            return BAD;
        }
        now.seen = new ArrayList<>(now.seen.subList(0, n));
        return had;
    }

    private boolean fits(int f, Wheel w) {
        TreeSet<Integer> rests = w.rests();
        for (Seen s : now.seen) {
            if (s.who == f && rests.contains(s.day % w.round()) != s.was) {
                return false;
            }
        }
        return true;
    }

    int error(int f) {
        if (no(f)) {
            return BAD;
        }
        Wheel w = now.wheels.get(f);
        boolean is = fits(f, w);
        boolean more = fits(f, with(w, w.teeth, (w.first + 1) % w.teeth));
        return is && more ? 2 : is ? 0 : more ? 1 : 3;
    }

    int wheels(int f, int what) {
        if (no(f) || what < 0 || what > 2) {
            return BAD;
        }
        List<Wheel> fit = new ArrayList<>();
        for (int teeth = 2; teeth <= 60; teeth++) {
            for (int first = 0; first < teeth; first++) {
                Wheel w = new Wheel(0, teeth, first, 0, 0, 0);
                if (fits(f, w)) {
                    fit.add(w);
                }
            }
        }
        return what == 0 ? fit.size() : fit.isEmpty() ? NONE : what == 1 ? fit.get(0).teeth : fit.get(0).first;
    }

    int worn(int f) {
        if (no(f)) {
            return BAD;
        }
        Wheel w = now.wheels.get(f);
        int bits = fits(f, new Wheel(w.kind & 2, w.teeth, w.first, w.door, 0, w.gap)) ? 1 : 0;
        for (int late = 1; late <= 3; late++) {
            bits |= fits(f, new Wheel(w.kind | 1, w.teeth, w.first, w.door, late, w.gap)) ? 1 << late : 0;
        }
        return bits;
    }

    // ---- horses

    int fright(int place, long t, int n) {
        if (place < 0 || place > 8 || noDay(t) || n < 1 || n > 400) {
            return BAD;
        }
        int many = 0;
        for (long d = t; d < t + n; d++) {
            int[] used = used(d);
            boolean near = false;
            for (int door = 0; door < 9; door++) {
                near |= used[door] > 0 && Math.abs(door - place) <= now.reach;
            }
            many += near ? 1 : 0;
        }
        return many;
    }

    int stand(long t, int n) {
        if (noDay(t) || n < 1 || n > 400) {
            return BAD;
        }
        int best = 0;
        int least = 401;
        for (int place = 0; place < 9; place++) {
            int many = fright(place, t, n);
            if (many < least) {
                least = many;
                best = place;
            }
        }
        return best;
    }

    // ---- images, sheets

    int keep(int k) {
        if (k < 0 || k > 1) {
            return BAD;
        }
        int was = image[k] == null ? 0 : 1;
        image[k] = now.copy();
        return was;
    }

    int back(int k) {
        if (k < 0 || k > 1) {
            return BAD;
        }
        if (image[k] == null) {
            return STATE;
        }
        now = image[k].copy();
        return now.wheels.size();
    }

    int sheet(int k, int lane, int n) {
        if (k < 0 || k > 3 || lane < 0 || lane > 2 || n > 40) {
            return BAD;
        }
        if (n < 0) {
            return -14;
        }
        sheet[k] = new int[n];
        lanes[k] = lane;
        return 1;
    }

    int lay(int k, int i, int v) {
        if (k < 0 || k > 3) {
            return BAD;
        }
        if (sheet[k] == null) {
            return -11;
        }
        if (i < 0 || i >= sheet[k].length) {
            return -12;
        }
        sheet[k][i] = lanes[k] == 0 ? (byte) v : lanes[k] == 1 ? (short) v : v;
        return 1;
    }

    int read(int k, int lane, int f, int n) {
        if (k < 0 || k > 3 || lane < 0 || lane > 2 || n < 0 || n > 12) {
            return BAD;
        }
        List<Seen> before = new ArrayList<>(now.seen);
        int found = 0;
        int came = 0;
        for (int i = 0; i < n && found == 0; i++) {
            int[] three = new int[3];
            for (int j = 0; j < 3 && found == 0; j++) {
                long at = (long) f + 3 * i + j;
                if (sheet[k] == null) {
                    found = 1;
                } else if (lanes[k] != lane) {
                    found = 3;
                } else if (at < 0 || at >= sheet[k].length) {
                    found = 2;
                } else {
                    three[j] = sheet[k][(int) at];
                }
            }
            if (found == 0) {
                if ((three[2] != 0 && three[2] != 1) || see(three[0], three[1], three[2] == 1) < 0) {
                    now.seen = before;
                    return -20 - i;
                }
                came++;
            }
        }
        torn = found;
        return came;
    }

    int torn() {
        return torn;
    }

    int count(int what) {
        int images = (image[0] == null ? 0 : 1) + (image[1] == null ? 0 : 1);
        int[] all = {crashing(now.wheels), now.seen.size(), images, tape.length(), sheet[0] == null ? NONE : sheet[0].length};
        return what < 0 || what > 4 ? BAD : all[what];
    }
}
