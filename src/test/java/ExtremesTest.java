import java.lang.reflect.InvocationTargetException;
import java.lang.reflect.Method;
import java.util.HashMap;
import java.util.Map;

/**
 * Every call with every edge of each of its numbers, all of them with all, in several states: none throws, and each
 * answer is NaiveClock's. LANGUAGE.md, rule 7: for any arguments in any state.
 */
public final class ExtremesTest {
    private static final long END = NaiveClock.END;
    private static final long MIN = Integer.MIN_VALUE, MAX = Integer.MAX_VALUE;

    /** The calls with what their numbers are: the letters of EDGES. */
    private static final String[] CALLS = {
        "feed v", "end n", "text", "fault", "rule w", "figure f w", "vote f w", "out f t", "next f t", "last f t", "often f t t",
        "together f f t", "meetings f f t t", "all b t", "cycle b", "crash f", "first t w", "date t w", "day a y", "by f t",
        "clashes t c", "stick d y y", "cut f w", "turn f", "recut f g s", "mend w", "hold n", "ask a f g s d", "see f e o",
        "forget n", "error f", "wheels f w", "worn f", "fright d t c", "stand t c", "keep k", "back k", "sheet k l m",
        "lay k i v", "read k l i n", "torn", "count w",
    };
    private static final Map<Character, long[]> EDGES = new HashMap<>();

    static {
        EDGES.put('a', new long[] {MIN, -1, 0, 3, 4, 99, 100, 9999, 10000, MAX});
        EDGES.put('b', new long[] {MIN, -1, 0, 1, 3, 32, 63, 64, 65, MAX});
        EDGES.put('c', new long[] {MIN, -1, 0, 1, 400, 401, MAX});
        EDGES.put('d', new long[] {MIN, -4, -1, 0, 8, 9, MAX});
        EDGES.put('e', new long[] {MIN, -1, 0, 30000, 30001, MAX});
        EDGES.put('f', new long[] {MIN, -1, 0, 1, 5, 6, MAX});
        EDGES.put('g', new long[] {MIN, -1, 0, 1, 2, 5, 60, 61, MAX});
        EDGES.put('i', new long[] {MIN, -1, 0, 1, 37, 38, 39, 40, MAX});
        EDGES.put('k', new long[] {MIN, -1, 0, 1, 2, 3, 4, MAX});
        EDGES.put('l', new long[] {MIN, -1, 0, 1, 2, 3, MAX});
        EDGES.put('m', new long[] {MIN, -1, 0, 3, 40, 41, MAX});
        EDGES.put('n', new long[] {MIN, -1, 0, 1, 2, 6, 7, 12, 13, 400, 401, MAX});
        EDGES.put('o', new long[] {0, 1});
        EDGES.put('s', new long[] {MIN, -1, 0, 1, 4, 5, 59, 60, MAX});
        EDGES.put('t', new long[] {Long.MIN_VALUE, MIN, -1, 0, 365, END - 1, END, END + 1, Long.MAX_VALUE});
        EDGES.put('v', new long[] {MIN, -1, 0, 1, 127, 128, 256, 32767, 32768, MAX});
        EDGES.put('w', new long[] {MIN, -1, 0, 1, 2, 3, 4, 5, 6, 7, MAX});
        EDGES.put('y', new long[] {MIN, -1, 0, 364, 365, 366, MAX});
    }

    /** Nothing; one figure alone; six that crash, votes and what was seen as many as may be, a door that sticks. */
    private static final String[] TEXTS = {
        "", "figure plain 2 1 8;reach 0;",
        "figure plain 6 0 0;figure worn 1 4 3 0;figure twin 4 5 4 8;figure both 2 1 3 2 8;figure plain 60 59 0;figure twin 1 2 0 3;"
            + "stick 8 364 365;reach 3;" + "vote 99 5 60 59 8;".repeat(6),
    };

    private final Due due = new Due();
    private final Map<String, Method> theirs = new HashMap<>();
    private final Map<String, Method> ours = new HashMap<>();
    private ClockTeeth x = new ClockTeeth();
    private NaiveClock y = new NaiveClock();

    public static void main(String[] args) throws Exception {
        ExtremesTest test = new ExtremesTest();
        for (Method m : NaiveClock.class.getDeclaredMethods()) {
            if (!java.lang.reflect.Modifier.isPrivate(m.getModifiers())) {
                test.ours.put(m.getName(), m);
            }
        }
        for (Method m : ClockTeeth.class.getMethods()) {
            test.theirs.put(m.getName(), m);
        }
        for (int state = 0; state < TEXTS.length; state++) {
            for (String call : CALLS) {
                test.renew(state);
                test.allOf(call, state);
            }
        }
        test.due.finish("ExtremesTest");
    }

    private void renew(int state) throws Exception {
        x = new ClockTeeth();
        y = new NaiveClock();
        String text = TEXTS[state];
        for (int at = 0; at < text.length(); at += 8) {
            both("feed", Due.eightOf(text, at));
        }
        both("text");
        for (int i = 0; i < 12 * (state / 2); i++) {
            both("see", i % 3, 6 * i, i < 6);
        }
        for (int k = 0; k < state; k++) {
            both("keep", k);
            both("sheet", k, k, 40);
            both("lay", k, 38, 6 * k);
        }
    }

    /** Every choice of the numbers is a number itself, told by how many edges each of them has. */
    private void allOf(String call, int state) throws Exception {
        String[] words = call.split(" ");
        int choices = 1;
        for (int i = 1; i < words.length; i++) {
            choices *= EDGES.get(words[i].charAt(0)).length;
        }
        Class<?>[] types = ours.get(words[0]).getParameterTypes();
        for (int choice = 0; choice < choices; choice++) {
            Object[] numbers = new Object[words.length - 1];
            int left = choice;
            for (int i = 0; i < numbers.length; i++) {
                long[] edges = EDGES.get(words[i + 1].charAt(0));
                numbers[i] = typed(types[i], edges[left % edges.length]);
                left /= edges.length;
            }
            both(words[0], numbers);
            // no object is asked more often than the document promises, and none is far from its state
            if (choice % 50 == 49) {
                renew(state);
            }
        }
    }

    private static Object typed(Class<?> type, long n) {
        return type == boolean.class ? (Object) (n == 1) : type == long.class ? (Object) n : (Object) (int) n;
    }

    private void both(String name, Object... numbers) throws Exception {
        StringBuilder call = new StringBuilder(name);
        for (Object n : numbers) {
            call.append(' ').append(n);
        }
        long want = ((Number) ours.get(name).invoke(y, numbers)).longValue();
        try {
            due.due(call.toString(), ((Number) theirs.get(name).invoke(x, numbers)).longValue(), want);
        } catch (InvocationTargetException e) {
            due.due(call + " throws " + e.getCause() + ", 1", 1, 0);
        }
    }
}
