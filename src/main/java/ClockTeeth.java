/** Figures that come out of the doors of a clock, as ../shared/DOC.md promises. */
public final class ClockTeeth {
    public static final int BAD = -1, STATE = -2, FULL = -3, NONE = -4;

    private static final long END = 1000000000000L;
    private static final int MOST_FIGURES = 6;
    private static final int MOST_VOTES = 6;
    private static final int MOST_SIGHTS = 12;
    private static final int MOST_IMAGES = 2;
    private static final int MOST_SHEETS = 4;
    private static final int MOST_CELLS = 40;
    private static final int MOST_DAYS = 400;
    private static final int TAPE_BYTES = 400;
    private static final int LEAST_TEETH = 2;
    private static final int MOST_TEETH = 60;
    private static final int LAST_LATE = 3;
    private static final int LAST_DOOR = 8;
    private static final int LAST_REACH = 3;
    private static final int LAST_YEAR_DAY = 365;
    private static final int LAST_VOTE_YEAR = 99;
    private static final int LAST_SIGHT_DAY = 30000;
    private static final int FOUR_YEARS = 1461;
    private static final int LEAP_YEAR = 366;
    private static final int YEAR = 365;
    /** Stands beside the bits of the doors, so that one number tells all of a day. */
    private static final int CLASH = 1 << (LAST_DOOR + 1);
    private static final int NULL_FAULT = 1, INDEX_FAULT = 2, CAST_FAULT = 3, SIZE_FAULT = 4;

    private final Tape tape = new Tape();
    private final Clock clock = new Clock();
    /** A text is told to this one first: one with a fault must leave the clock alone. */
    private final Clock draft = new Clock();
    private final Clock[] images = new Clock[MOST_IMAGES];
    private final boolean[] kept = new boolean[MOST_IMAGES];
    private final Sheet[] sheets = new Sheet[MOST_SHEETS];
    private final Finder finder = new Finder();
    private final Figure trial = new Figure();
    private final int[] teethBefore = new int[MOST_FIGURES];
    private final int[] startBefore = new int[MOST_FIGURES];
    private final int[] frights = new int[LAST_DOOR + 1];
    private int textFault = 0;
    private int readFault = 0;

    public ClockTeeth() {
        for (int k = 0; k < images.length; k++) {
            images[k] = new Clock();
        }
        for (int k = 0; k < sheets.length; k++) {
            sheets[k] = new Sheet();
        }
    }

    // ---- the text

    public int feed(long v) {
        return tape.take(v) ? tape.length : FULL;
    }

    public int end(int n) {
        if (n < 0 || n > tape.length) {
            return BAD;
        }
        int had = tape.length;
        tape.length = n;
        return had;
    }

    public int text() {
        Reader reader = new Reader(tape, draft);
        int lines = reader.readLines();
        tape.length = 0;
        textFault = reader.found;
        if (textFault != 0) {
            return -10 - reader.foundAt;
        }
        clock.become(draft);
        for (int k = 0; k < kept.length; k++) {
            kept[k] = false;
        }
        return lines;
    }

    public int fault() {
        return textFault;
    }

    public int rule(int what) {
        switch (what) {
            case 0: return clock.figureCount;
            case 1: return clock.stickDoor;
            case 2: return clock.stickFrom;
            case 3: return clock.stickTo;
            case 4: return clock.reach;
            case 5: return clock.voteCount;
            default: return BAD;
        }
    }

    public int figure(int f, int what) {
        if (!isFigure(f)) {
            return BAD;
        }
        Figure one = clock.figures[f];
        switch (what) {
            case 0: return one.kind();
            case 1: return one.teeth;
            case 2: return one.start;
            case 3: return one.door;
            case 4: return one.late > 0 ? one.late : NONE;
            case 5: return one.gap > 0 ? one.gap : NONE;
            case 6: return one.round();
            default: return BAD;
        }
    }

    public int vote(int v, int what) {
        if (v < 0 || v >= clock.voteCount) {
            return BAD;
        }
        Vote one = clock.votes[v];
        switch (what) {
            case 0: return one.year;
            case 1: return one.goes;
            case 2: return one.teeth;
            case 3: return one.start;
            case 4: return one.door;
            default: return BAD;
        }
    }

    // ---- one

    public int out(int f, long t) {
        if (!isFigure(f) || !isDay(t)) {
            return BAD;
        }
        return clock.figures[f].comesOut(t) ? 1 : 0;
    }

    public long next(int f, long t) {
        if (!isFigure(f) || !isDay(t)) {
            return BAD;
        }
        return finder.earliest(clock.figures, 1 << f, t);
    }

    public long last(int f, long t) {
        if (!isFigure(f) || !isDay(t)) {
            return BAD;
        }
        Figure one = clock.figures[f];
        long latest = NONE;
        for (int k = 0; k < one.times(); k++) {
            long came = t - rest(t - one.timeOf(k), one.round());
            if (came >= 0 && came > latest) {
                latest = came;
            }
        }
        return latest;
    }

    public long often(int f, long from, long to) {
        if (!isFigure(f) || !isSpan(from, to)) {
            return BAD;
        }
        return finder.howOften(clock.figures, 1 << f, from, to);
    }

    // ---- several

    public long together(int f, int g, long t) {
        if (!isPair(f, g) || !isDay(t)) {
            return BAD;
        }
        return finder.earliest(clock.figures, 1 << f | 1 << g, t);
    }

    public long meetings(int f, int g, long from, long to) {
        if (!isPair(f, g) || !isSpan(from, to)) {
            return BAD;
        }
        return finder.howOften(clock.figures, 1 << f | 1 << g, from, to);
    }

    public long all(int some, long t) {
        if (!isSome(some) || !isDay(t)) {
            return BAD;
        }
        return finder.earliest(clock.figures, some, t);
    }

    public long cycle(int some) {
        if (!isSome(some)) {
            return BAD;
        }
        return finder.commonRound(clock.figures, some);
    }

    public int crash(int f) {
        if (!isFigure(f)) {
            return BAD;
        }
        return clock.crashesOf(f);
    }

    public long first(long t, int what) {
        if (!isDay(t) || !isYesOrNo(what)) {
            return BAD;
        }
        long soonest = END + 1;
        int pair = NONE;
        for (int f = 0; f < clock.figureCount; f++) {
            for (int g = f + 1; g < clock.figureCount; g++) {
                long met = clock.figures[f].door == clock.figures[g].door
                        ? finder.earliest(clock.figures, 1 << f | 1 << g, t) : NONE;
                if (met >= 0 && met < soonest) {
                    soonest = met;
                    pair = 10 * f + g;
                }
            }
        }
        if (pair == NONE) {
            return NONE;
        }
        return what == 0 ? soonest : pair;
    }

    // ---- years, doors

    public long date(long t, int what) {
        if (!isDay(t) || !isYesOrNo(what)) {
            return BAD;
        }
        return what == 0 ? yearOf(t) : dayOfYear(t);
    }

    public long day(int year, int d) {
        if (year < 0 || year > 9999 || d < 0 || d >= (year % 4 == 0 ? LEAP_YEAR : YEAR)) {
            return BAD;
        }
        int leapYearsAhead = (year + 3) / 4;
        return (long) year * YEAR + leapYearsAhead + d;
    }

    public int by(int f, long t) {
        if (!isFigure(f) || !isDay(t)) {
            return BAD;
        }
        Figure one = clock.figures[f];
        return one.comesOut(t) ? clock.doorOf(one, dayOfYear(t)) : NONE;
    }

    public int clashes(long t, int n) {
        if (!isDay(t) || !isDayCount(n)) {
            return BAD;
        }
        int days = 0;
        for (int i = 0; i < n; i++) {
            if ((clock.doorsOn(t + i) & CLASH) != 0) {
                days++;
            }
        }
        return days;
    }

    public int stick(int door, int from, int to) {
        boolean freed = door == NONE && from == 0 && to == 0;
        if (!freed && (!isDoor(door) || from < 0 || to < from || to > LAST_YEAR_DAY)) {
            return BAD;
        }
        int did = clock.stickDoor == NONE ? 0 : 1;
        if (freed) {
            clock.free();
        } else {
            clock.jam(door, from, to);
        }
        return did;
    }

    // ---- wheels

    public int cut(int f, int what) {
        if (!isFigure(f) || !isYesOrNo(what)) {
            return BAD;
        }
        if (!clock.cutInto(f, trial)) {
            return NONE;
        }
        return what == 0 ? trial.teeth : trial.start;
    }

    public int turn(int f) {
        if (!isFigure(f)) {
            return BAD;
        }
        Figure one = clock.figures[f];
        trial.become(one);
        long free = clock.freeStarts(f, trial);
        for (int later = 0; later < one.teeth; later++) {
            int start = (int) rest(one.start + later, one.teeth);
            if ((free >>> start & 1L) != 0) {
                return start;
            }
        }
        return NONE;
    }

    public int recut(int f, int teeth, int first) {
        if (!isFigure(f) || !isWheel(teeth, first) || clock.figures[f].gap >= teeth) {
            return BAD;
        }
        Figure one = clock.figures[f];
        int had = one.teeth;
        one.teeth = teeth;
        one.start = first;
        return had;
    }

    public int mend(int what) {
        if (!isYesOrNo(what)) {
            return BAD;
        }
        for (int f = 0; f < clock.figureCount; f++) {
            teethBefore[f] = clock.figures[f].teeth;
            startBefore[f] = clock.figures[f].start;
        }
        int mended = 0;
        for (int f = 0; f < clock.figureCount; f++) {
            if (clock.crashesOf(f) != 0 && clock.cutInto(f, trial)) {
                clock.figures[f].become(trial);
                mended++;
            }
        }
        int still = clock.howManyCrash();
        for (int f = 0; f < clock.figureCount; f++) {
            clock.figures[f].teeth = teethBefore[f];
            clock.figures[f].start = startBefore[f];
        }
        return what == 0 ? mended : still;
    }

    public int hold(int n) {
        if (n < 0 || n > clock.voteCount) {
            return BAD;
        }
        clock.holdVotes(n);
        return clock.howManyCrash();
    }

    public int ask(int year, int f, int teeth, int first, int door) {
        if (year < clock.leastVoteYear() || year > LAST_VOTE_YEAR || !isFigure(f)
                || !isWheel(teeth, first) || !isDoor(door)) {
            return BAD;
        }
        if (clock.voteCount >= MOST_VOTES) {
            return FULL;
        }
        clock.addVote(year, f, teeth, first, door);
        return clock.voteCount;
    }

    // ---- seen

    public int see(int f, int t, boolean was) {
        return addSight(f, t, was);
    }

    public int forget(int n) {
        if (n < 0 || n > clock.sightCount) {
            return BAD;
        }
        int had = clock.sightCount;
        clock.sightCount = n;
        return had;
    }

    public int error(int f) {
        if (!isFigure(f)) {
            return BAD;
        }
        Figure one = clock.figures[f];
        trial.become(one);
        trial.start = one.start + 1 < one.teeth ? one.start + 1 : 0;
        boolean fits = clock.fits(f, one);
        boolean fitsOneMore = clock.fits(f, trial);
        if (fits) {
            return fitsOneMore ? 2 : 0;
        }
        return fitsOneMore ? 1 : 3;
    }

    public int wheels(int f, int what) {
        if (!isFigure(f) || what < 0 || what > 2) {
            return BAD;
        }
        int fitting = 0;
        for (int teeth = LEAST_TEETH; teeth <= MOST_TEETH; teeth++) {
            long starts = clock.fittingStarts(f, teeth);
            if (starts != 0 && what == 1) {
                return teeth;
            }
            if (starts != 0 && what == 2) {
                return lowestBit(starts);
            }
            fitting += Long.bitCount(starts);
        }
        return what == 0 ? fitting : NONE;
    }

    public int worn(int f) {
        if (!isFigure(f)) {
            return BAD;
        }
        trial.become(clock.figures[f]);
        int fitting = 0;
        for (int late = 0; late <= LAST_LATE; late++) {
            trial.late = late;
            if (clock.fits(f, trial)) {
                fitting |= 1 << late;
            }
        }
        return fitting;
    }

    // ---- horses

    public int fright(int place, long t, int n) {
        if (!isDoor(place) || !isDay(t) || !isDayCount(n)) {
            return BAD;
        }
        countFrights(t, n);
        return frights[place];
    }

    public int stand(long t, int n) {
        if (!isDay(t) || !isDayCount(n)) {
            return BAD;
        }
        countFrights(t, n);
        int calmest = 0;
        for (int place = 1; place < frights.length; place++) {
            if (frights[place] < frights[calmest]) {
                calmest = place;
            }
        }
        return calmest;
    }

    // ---- images, sheets

    public int keep(int k) {
        if (!isImage(k)) {
            return BAD;
        }
        int was = kept[k] ? 1 : 0;
        images[k].become(clock);
        kept[k] = true;
        return was;
    }

    public int back(int k) {
        if (!isImage(k)) {
            return BAD;
        }
        if (!kept[k]) {
            return STATE;
        }
        clock.become(images[k]);
        return clock.figureCount;
    }

    public int sheet(int k, int lane, int n) {
        if (!isSheet(k) || !isLane(lane) || n > MOST_CELLS) {
            return BAD;
        }
        if (n < 0) {
            return -10 - SIZE_FAULT;
        }
        sheets[k].renew(lane, n);
        return 1;
    }

    public int lay(int k, int i, int v) {
        if (!isSheet(k)) {
            return BAD;
        }
        Sheet one = sheets[k];
        int found = one.faultOf(one.lane, i, 1);
        if (found != 0) {
            return -10 - found;
        }
        one.put(i, v);
        return 1;
    }

    public int read(int k, int lane, int f, int n) {
        if (!isSheet(k) || !isLane(lane) || n < 0 || n > MOST_SIGHTS) {
            return BAD;
        }
        Sheet one = sheets[k];
        int before = clock.sightCount;
        for (int i = 0; i < n; i++) {
            // f may be anything, so that the sum is made where it can not wrap around
            long at = f + 3L * i;
            int found = one.faultOf(lane, at, 3);
            if (found != 0) {
                readFault = found;
                return i;
            }
            if (!addSightOf(one, (int) at)) {
                clock.sightCount = before;
                return -20 - i;
            }
        }
        readFault = 0;
        return n;
    }

    public int torn() {
        return readFault;
    }

    public int count(int what) {
        switch (what) {
            case 0: return clock.howManyCrash();
            case 1: return clock.sightCount;
            case 2: return (kept[0] ? 1 : 0) + (kept[1] ? 1 : 0);
            case 3: return tape.length;
            case 4: return sheets[0].cells < 0 ? NONE : sheets[0].cells;
            default: return BAD;
        }
    }

    // ---- what is asked of the numbers that come in

    private boolean isFigure(int f) {
        return f >= 0 && f < clock.figureCount;
    }

    private boolean isPair(int f, int g) {
        return isFigure(f) && isFigure(g) && f != g;
    }

    private boolean isSome(int some) {
        return some > 0 && some < 1 << clock.figureCount;
    }

    private static boolean isDay(long t) {
        return t >= 0 && t <= END;
    }

    private static boolean isSpan(long from, long to) {
        return isDay(from) && isDay(to) && from <= to;
    }

    private static boolean isDayCount(int n) {
        return n >= 1 && n <= MOST_DAYS;
    }

    private static boolean isDoor(int door) {
        return door >= 0 && door <= LAST_DOOR;
    }

    private static boolean isWheel(int teeth, int start) {
        return teeth >= LEAST_TEETH && teeth <= MOST_TEETH && start >= 0 && start < teeth;
    }

    private static boolean isYesOrNo(int what) {
        return what == 0 || what == 1;
    }

    private static boolean isImage(int k) {
        return k >= 0 && k < MOST_IMAGES;
    }

    private static boolean isSheet(int k) {
        return k >= 0 && k < MOST_SHEETS;
    }

    private static boolean isLane(int lane) {
        return lane >= 0 && lane <= 2;
    }

    // ---- what several calls need

    private int addSight(int f, int t, boolean was) {
        if (!isFigure(f) || t < 0 || t > LAST_SIGHT_DAY) {
            return BAD;
        }
        if (clock.sightCount >= MOST_SIGHTS) {
            return FULL;
        }
        clock.sights[clock.sightCount].tell(f, t, was);
        clock.sightCount++;
        return clock.sightCount;
    }

    private boolean addSightOf(Sheet one, int at) {
        int was = one.row[at + 2];
        return isYesOrNo(was) && addSight(one.row[at], one.row[at + 1], was == 1) > 0;
    }

    private void countFrights(long t, int n) {
        for (int place = 0; place < frights.length; place++) {
            frights[place] = 0;
        }
        for (int i = 0; i < n; i++) {
            int doors = clock.doorsOn(t + i);
            for (int place = 0; place < frights.length; place++) {
                if ((doors & near(place, clock.reach)) != 0) {
                    frights[place]++;
                }
            }
        }
    }

    private static int near(int place, int reach) {
        int from = Math.max(0, place - reach);
        int to = Math.min(LAST_DOOR, place + reach);
        return (1 << (to + 1)) - (1 << from);
    }

    private static long yearOf(long t) {
        int inFour = (int) rest(t, FOUR_YEARS);
        long years = t / FOUR_YEARS * 4;
        return inFour < LEAP_YEAR ? years : years + 1 + (inFour - LEAP_YEAR) / YEAR;
    }

    private static int dayOfYear(long t) {
        int inFour = (int) rest(t, FOUR_YEARS);
        return inFour < LEAP_YEAR ? inFour : (inFour - LEAP_YEAR) % YEAR;
    }

    /** The rest from 0 on; no divisor below 1 ever divides. */
    private static long rest(long number, long divisor) {
        if (divisor < 1) {
            return 0;
        }
        long left = number % divisor;
        return left < 0 ? left + divisor : left;
    }

    private static long commonDivisor(long one, long other) {
        long a = one;
        long b = other;
        // the lesser one halves in two steps at least: a long is through long before 200
        for (int i = 0; i < 200 && b > 0; i++) {
            long left = a % b;
            a = b;
            b = left;
        }
        return Math.max(a, 1);
    }

    private static int lowestBit(long bits) {
        for (int i = 0; i < MOST_TEETH; i++) {
            if ((bits >>> i & 1L) != 0) {
                return i;
            }
        }
        return 0;
    }

    /** A figure; late 0 is one that is not worn, gap 0 one that is no twin. */
    private static final class Figure {
        int teeth = LEAST_TEETH;
        int start = 0;
        int door = 0;
        int late = 0;
        int gap = 0;

        void become(Figure other) {
            teeth = other.teeth;
            start = other.start;
            door = other.door;
            late = other.late;
            gap = other.gap;
        }

        int kind() {
            return (late > 0 ? 1 : 0) + (gap > 0 ? 2 : 0);
        }

        int round() {
            return late > 0 ? late * teeth + 1 : teeth;
        }

        /** How many times of a round he comes out; no two fall on one day, as the gap is below the teeth. */
        int times() {
            return Math.max(late, 1) * (gap > 0 ? 2 : 1);
        }

        /** How many days behind the first time of a round he comes out for the k-th time. */
        int offset(int k) {
            return gap > 0 ? k / 2 * teeth + k % 2 * gap : k * teeth;
        }

        /** The day of his k-th time, modulo his round. */
        int timeOf(int k) {
            return (int) rest(start + offset(k), round());
        }

        boolean comesOut(long t) {
            long behind = rest(t - start, round());
            if (behind >= (long) Math.max(late, 1) * teeth) {
                return false;
            }
            long behindTooth = rest(behind, teeth);
            return behindTooth == 0 || gap > 0 && behindTooth == gap;
        }

        boolean meets(Figure other) {
            long common = commonDivisor(round(), other.round());
            for (int k = 0; k < times(); k++) {
                for (int i = 0; i < other.times(); i++) {
                    if (rest(timeOf(k) - other.timeOf(i), common) == 0) {
                        return true;
                    }
                }
            }
            return false;
        }
    }

    private static final class Vote {
        int year = 0;
        int goes = 0;
        int teeth = LEAST_TEETH;
        int start = 0;
        int door = 0;

        void become(Vote other) {
            year = other.year;
            goes = other.goes;
            teeth = other.teeth;
            start = other.start;
            door = other.door;
        }
    }

    private static final class Sight {
        int who = 0;
        int when = 0;
        boolean was = false;

        void tell(int f, int t, boolean came) {
            who = f;
            when = t;
            was = came;
        }
    }

    /** All that a text tells and what was seen: that which an image keeps. */
    private static final class Clock {
        final Figure[] figures = new Figure[MOST_FIGURES];
        final Vote[] votes = new Vote[MOST_VOTES];
        final Sight[] sights = new Sight[MOST_SIGHTS];
        int figureCount = 0;
        int voteCount = 0;
        int sightCount = 0;
        int stickDoor = NONE;
        int stickFrom = NONE;
        int stickTo = NONE;
        int reach = 1;

        Clock() {
            for (int f = 0; f < figures.length; f++) {
                figures[f] = new Figure();
            }
            for (int v = 0; v < votes.length; v++) {
                votes[v] = new Vote();
            }
            for (int s = 0; s < sights.length; s++) {
                sights[s] = new Sight();
            }
        }

        void empty() {
            figureCount = 0;
            voteCount = 0;
            sightCount = 0;
            reach = 1;
            free();
        }

        void free() {
            jam(NONE, NONE, NONE);
        }

        void jam(int door, int from, int to) {
            stickDoor = door;
            stickFrom = from;
            stickTo = to;
        }

        void become(Clock other) {
            for (int f = 0; f < other.figureCount; f++) {
                figures[f].become(other.figures[f]);
            }
            for (int v = 0; v < other.voteCount; v++) {
                votes[v].become(other.votes[v]);
            }
            for (int s = 0; s < other.sightCount; s++) {
                Sight one = other.sights[s];
                sights[s].tell(one.who, one.when, one.was);
            }
            figureCount = other.figureCount;
            voteCount = other.voteCount;
            sightCount = other.sightCount;
            reach = other.reach;
            jam(other.stickDoor, other.stickFrom, other.stickTo);
        }

        int leastVoteYear() {
            return voteCount > 0 ? votes[voteCount - 1].year : 0;
        }

        void addVote(int year, int goes, int teeth, int start, int door) {
            Vote one = votes[voteCount];
            one.year = year;
            one.goes = goes;
            one.teeth = teeth;
            one.start = start;
            one.door = door;
            voteCount++;
        }

        void holdVotes(int n) {
            for (int v = 0; v < n; v++) {
                Vote held = votes[v];
                Figure one = figures[held.goes];
                one.teeth = held.teeth;
                one.start = held.start;
                one.door = held.door;
                one.late = 0;
                one.gap = 0;
            }
            for (int v = n; v < voteCount; v++) {
                votes[v - n].become(votes[v]);
            }
            voteCount -= n;
        }

        int doorOf(Figure one, int yearDay) {
            if (one.door != stickDoor || yearDay < stickFrom || yearDay > stickTo) {
                return one.door;
            }
            return one.door < LAST_DOOR ? one.door + 1 : 0;
        }

        /** Bits of the doors that somebody comes out of, and CLASH if one is used twice. */
        int doorsOn(long t) {
            int doors = 0;
            int yearDay = dayOfYear(t);
            for (int f = 0; f < figureCount; f++) {
                if (figures[f].comesOut(t)) {
                    int door = 1 << doorOf(figures[f], yearDay);
                    doors |= (doors & door) != 0 ? CLASH : door;
                }
            }
            return doors;
        }

        int crashesOf(int f) {
            int crashing = 0;
            for (int g = 0; g < figureCount; g++) {
                if (g != f && figures[g].door == figures[f].door && figures[f].meets(figures[g])) {
                    crashing |= 1 << g;
                }
            }
            return crashing;
        }

        int howManyCrash() {
            int crashing = 0;
            for (int f = 0; f < figureCount; f++) {
                if (crashesOf(f) != 0) {
                    crashing++;
                }
            }
            return crashing;
        }

        /** Makes of the trial figure f as he would be cut; false if he can not be. */
        boolean cutInto(int f, Figure trial) {
            trial.become(figures[f]);
            int teeth = trial.teeth;
            for (int change = 0; change <= MOST_TEETH - LEAST_TEETH; change++) {
                if (startFirst(f, trial, teeth - change) || startFirst(f, trial, teeth + change)) {
                    return true;
                }
            }
            return false;
        }

        private boolean startFirst(int f, Figure trial, int teeth) {
            if (teeth < LEAST_TEETH || teeth > MOST_TEETH || trial.gap >= teeth) {
                return false;
            }
            trial.teeth = teeth;
            long free = freeStarts(f, trial);
            trial.start = lowestBit(free);
            return free != 0;
        }

        /** Bits of the starts by which the trial, in place of figure f, would crash with nobody. */
        long freeStarts(int f, Figure trial) {
            long free = (1L << trial.teeth) - 1;
            for (int g = 0; g < figureCount && free != 0; g++) {
                if (g != f && figures[g].door == trial.door) {
                    free = freeOf(figures[g], trial, free);
                }
            }
            return free;
        }

        private static long freeOf(Figure other, Figure trial, long starts) {
            int common = (int) commonDivisor(trial.round(), other.round());
            long free = starts;
            for (int k = 0; k < trial.times() && free != 0; k++) {
                for (int i = 0; i < other.times() && free != 0; i++) {
                    int meeting = (int) rest(other.timeOf(i) - trial.offset(k), common);
                    for (int start = meeting; start < trial.teeth; start += common) {
                        free &= ~(1L << start);
                    }
                }
            }
            return free;
        }

        boolean fits(int f, Figure like) {
            for (int s = 0; s < sightCount; s++) {
                Sight one = sights[s];
                if (one.who == f && like.comesOut(one.when) != one.was) {
                    return false;
                }
            }
            return true;
        }

        /** Bits of the starts by which a plain wheel with such teeth fits figure f. */
        long fittingStarts(int f, int teeth) {
            long starts = (1L << teeth) - 1;
            for (int s = 0; s < sightCount; s++) {
                Sight one = sights[s];
                if (one.who == f) {
                    long start = 1L << rest(one.when, teeth);
                    starts &= one.was ? start : ~start;
                }
            }
            return starts;
        }
    }

    /** Days on which several come out, found by their rests and not day by day: they may be far. */
    private static final class Finder {
        private final Figure[] chosen = new Figure[MOST_FIGURES];
        /** step[i]: after how many days the i chosen first go on as before. */
        private final long[] step = new long[MOST_FIGURES + 1];
        private final long[] common = new long[MOST_FIGURES];
        private final long[] inverse = new long[MOST_FIGURES];
        private int levels = 0;
        private long from = 0;
        private long best = 0;

        Finder() {
            for (int i = 0; i < chosen.length; i++) {
                chosen[i] = new Figure();
            }
        }

        long commonRound(Figure[] figures, int some) {
            choose(figures, some);
            return step[levels];
        }

        long earliest(Figure[] figures, int some, long t) {
            choose(figures, some);
            from = t;
            best = END - t + 1;
            search(this, 0, 0);
            return best <= END - t ? t + best : NONE;
        }

        long howOften(Figure[] figures, int some, long since, long to) {
            choose(figures, some);
            from = since;
            return countOf(this, 0, 0, to - since);
        }

        private void choose(Figure[] figures, int some) {
            levels = 0;
            step[0] = 1;
            for (int f = 0; f < MOST_FIGURES; f++) {
                if ((some >> f & 1) != 0) {
                    addLevel(figures[f]);
                }
            }
        }

        private void addLevel(Figure one) {
            long shared = commonDivisor(step[levels], one.round());
            long modulus = one.round() / shared;
            chosen[levels].become(one);
            common[levels] = shared;
            inverse[levels] = inverseOf(step[levels] / shared, modulus);
            step[levels + 1] = step[levels] * modulus;
            levels++;
        }

        private static long inverseOf(long number, long modulus) {
            for (long i = 1; i < modulus; i++) {
                if (rest(number * i, modulus) == 1) {
                    return i;
                }
            }
            return 0;
        }

        /** The first day behind day x of the levels ahead on which this one comes out by his k-th time; or NONE. */
        private long meet(int level, long x, int k) {
            Figure one = chosen[level];
            long missing = rest(one.timeOf(k) - from - x, one.round());
            long shared = common[level];
            if (shared < 1 || missing % shared != 0) {
                return NONE;
            }
            long turns = rest(missing / shared * inverse[level], one.round() / shared);
            return x + turns * step[level];
        }

        private static void search(Finder in, int level, long x) {
            if (level >= in.levels) {
                in.best = x;
                return;
            }
            for (int k = 0; k < in.chosen[level].times(); k++) {
                long met = in.meet(level, x, k);
                // a day only grows with the levels, so that what is late now is not looked at
                if (met >= 0 && met < in.best) {
                    search(in, level + 1, met);
                }
            }
        }

        private static long countOf(Finder in, int level, long x, long span) {
            if (level >= in.levels) {
                return (span - x) / Math.max(in.step[level], 1) + 1;
            }
            long days = 0;
            for (int k = 0; k < in.chosen[level].times(); k++) {
                long met = in.meet(level, x, k);
                if (met >= 0 && met <= span) {
                    days += countOf(in, level + 1, met, span);
                }
            }
            return days;
        }
    }

    private static final class Sheet {
        final int[] row = new int[MOST_CELLS];
        int lane = 0;
        /** Below 0: the sheet is nothing. */
        int cells = -1;

        void renew(int newLane, int n) {
            lane = newLane;
            cells = n;
            for (int i = 0; i < row.length; i++) {
                row[i] = 0;
            }
        }

        int faultOf(int asLane, long at, int n) {
            if (cells < 0) {
                return NULL_FAULT;
            }
            if (asLane != lane) {
                return CAST_FAULT;
            }
            return at < 0 || at + n > cells ? INDEX_FAULT : 0;
        }

        void put(int i, int v) {
            switch (lane) {
                case 0: row[i] = (byte) v; break;
                case 1: row[i] = (short) v; break;
                default: row[i] = v; break;
            }
        }
    }

    private static final class Tape {
        final int[] bytes = new int[TAPE_BYTES];
        int length = 0;

        boolean take(long v) {
            if (length + 8 > TAPE_BYTES) {
                return false;
            }
            for (int i = 0; i < 8; i++) {
                bytes[length + i] = (int) (v >>> 56 - 8 * i & 255L);
            }
            length += 8;
            return true;
        }

        boolean isLetter(int at) {
            return at < length && bytes[at] >= 'a' && bytes[at] <= 'z';
        }

        boolean isDigit(int at) {
            return at < length && bytes[at] >= '0' && bytes[at] <= '9';
        }

        boolean isSign(int at, char sign) {
            return at < length && bytes[at] == sign;
        }
    }

    /** Reads a text; behind the first fault every step does nothing, so that lines need not ask. */
    private static final class Reader {
        private static final int FINISH = 0, NAME = 1, NUMBER = 2, SIGN = 3;
        private static final int NO_TOKEN = 1, OUT_OF_PLACE = 2, OUT_OF_BOUNDS = 3, AT_ODDS = 4, TOO_MANY = 5, NOBODY = 6;

        private final Tape tape;
        private final Clock told;
        private int token = FINISH;
        private int tokenAt = 0;
        private int tokenEnd = 0;
        private boolean stickTold = false;
        private boolean reachTold = false;
        int found = 0;
        int foundAt = 0;

        Reader(Tape tape, Clock told) {
            this.tape = tape;
            this.told = told;
        }

        int readLines() {
            told.empty();
            int lines = 0;
            advance();
            // a line has a byte at least, so that there are no more of them than bytes
            while (found == 0 && token != FINISH && lines < TAPE_BYTES) {
                readLine();
                advance();
                lines++;
            }
            for (int v = 0; v < told.voteCount; v++) {
                if (told.votes[v].goes >= told.figureCount) {
                    refuse(NOBODY, tape.length);
                }
            }
            return lines;
        }

        private void readLine() {
            if (isName("figure")) {
                readFigure();
            } else if (isName("stick")) {
                readStick();
            } else if (isName("reach")) {
                readReach();
            } else if (isName("vote")) {
                readVote();
            } else {
                refuse(OUT_OF_PLACE, tokenAt);
            }
        }

        private void readFigure() {
            demand(told.figureCount < MOST_FIGURES, TOO_MANY);
            advance();
            boolean both = isName("both");
            boolean isWorn = both || isName("worn");
            boolean isTwin = both || isName("twin");
            demand(isWorn || isTwin || isName("plain"), OUT_OF_PLACE);
            int late = isWorn ? number(1, LAST_LATE) : 0;
            int gap = isTwin ? number(1, MOST_TEETH - 1) : 0;
            int teeth = number(LEAST_TEETH, MOST_TEETH);
            demand(teeth > gap, AT_ODDS);
            int start = number(0, MOST_TEETH - 1);
            demand(start < teeth, AT_ODDS);
            int door = number(0, LAST_DOOR);
            endLine();
            if (found == 0) {
                Figure one = told.figures[told.figureCount];
                one.late = late;
                one.gap = gap;
                one.teeth = teeth;
                one.start = start;
                one.door = door;
                told.figureCount++;
            }
        }

        private void readStick() {
            demand(!stickTold, AT_ODDS);
            stickTold = true;
            int door = number(0, LAST_DOOR);
            int from = number(0, LAST_YEAR_DAY);
            int to = number(from, LAST_YEAR_DAY);
            endLine();
            told.jam(door, from, to);
        }

        private void readReach() {
            demand(!reachTold, AT_ODDS);
            reachTold = true;
            told.reach = number(0, LAST_REACH);
            endLine();
        }

        private void readVote() {
            demand(told.voteCount < MOST_VOTES, TOO_MANY);
            int year = number(told.leastVoteYear(), LAST_VOTE_YEAR);
            int goes = number(0, MOST_FIGURES - 1);
            int teeth = number(LEAST_TEETH, MOST_TEETH);
            int start = number(0, teeth - 1);
            int door = number(0, LAST_DOOR);
            endLine();
            if (found == 0) {
                told.addVote(year, goes, teeth, start, door);
            }
        }

        private void endLine() {
            advance();
            demand(token == SIGN, OUT_OF_PLACE);
        }

        private int number(int least, int most) {
            advance();
            demand(token == NUMBER, OUT_OF_PLACE);
            if (found != 0) {
                return 0;
            }
            int value = 0;
            for (int at = tokenAt; at < tokenEnd; at++) {
                value = 10 * value + tape.bytes[at] - '0';
            }
            demand(value >= least && value <= most, OUT_OF_BOUNDS);
            return value;
        }

        private boolean isName(String name) {
            if (token != NAME || tokenEnd - tokenAt != name.length()) {
                return false;
            }
            for (int i = 0; i < name.length(); i++) {
                if (tape.bytes[tokenAt + i] != name.charAt(i)) {
                    return false;
                }
            }
            return true;
        }

        private void demand(boolean holds, int otherwise) {
            if (!holds) {
                refuse(otherwise, tokenAt);
            }
        }

        private void refuse(int fault, int at) {
            if (found == 0) {
                found = fault;
                foundAt = at;
            }
        }

        private void advance() {
            if (found != 0) {
                return;
            }
            int at = tokenEnd;
            while (at < tape.length && tape.isSign(at, ' ')) {
                at++;
            }
            tokenAt = at;
            if (at >= tape.length) {
                token = FINISH;
            } else if (tape.isLetter(at)) {
                token = NAME;
                while (at < tape.length && tape.isLetter(at)) {
                    at++;
                }
            } else if (tape.isDigit(at)) {
                token = NUMBER;
                while (at < tape.length && tape.isDigit(at)) {
                    at++;
                }
                demand(at - tokenAt <= 3, NO_TOKEN);
            } else {
                token = SIGN;
                demand(tape.isSign(at, ';'), NO_TOKEN);
                at++;
            }
            tokenEnd = at;
        }
    }
}
