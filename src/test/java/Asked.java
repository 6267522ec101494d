import java.lang.reflect.InvocationTargetException;
import java.lang.reflect.Method;
import java.util.HashMap;
import java.util.Map;
import java.util.regex.Matcher;
import java.util.regex.Pattern;

/** An object whose calls are written as the document writes them; they are counted, as it promises 512 of them and no more. */
final class Asked {
    private static final int MOST_CALLS = 512;
    private static final long END = 1000000000000L;
    private static final Pattern CALL = Pattern.compile("(\\w+)\\((.*)\\)");
    private static final Pattern NUMBER = Pattern.compile("(END|MIN|MAX|NONE)?([+-]?\\d+)?");
    private static final Map<String, Method> FACE = face();

    private final ClockTeeth x = new ClockTeeth();
    private int calls = 0;

    /** An object that was told a text without a fault. */
    static Asked of(String text) {
        Asked one = new Asked();
        if (one.tell(text) < 0) {
            throw new IllegalStateException("a test's own text is not taken: " + text);
        }
        return one;
    }

    private static Map<String, Method> face() {
        Map<String, Method> face = new HashMap<>();
        for (Method m : ClockTeeth.class.getMethods()) {
            if (m.getDeclaringClass() == ClockTeeth.class) {
                face.put(m.getName(), m);
            }
        }
        return face;
    }

    /** A number is told by its figures, or from END, MIN, MAX (of the type that is asked for) or NONE on: END-7. */
    long ask(String call) {
        Matcher m = CALL.matcher(call);
        Method method = m.matches() ? FACE.get(m.group(1)) : null;
        if (method == null) {
            throw new IllegalStateException("no such call: " + call);
        }
        String[] words = m.group(2).isEmpty() ? new String[0] : m.group(2).split(", ");
        Class<?>[] types = method.getParameterTypes();
        if (words.length != types.length) {
            throw new IllegalStateException("not as many numbers as the call wants: " + call);
        }
        Object[] numbers = new Object[words.length];
        for (int i = 0; i < words.length; i++) {
            numbers[i] = types[i] == boolean.class ? (Object) words[i].equals("true")
                    : types[i] == long.class ? (Object) number(words[i], Long.MIN_VALUE, Long.MAX_VALUE)
                    : (Object) Math.toIntExact(number(words[i], Integer.MIN_VALUE, Integer.MAX_VALUE));
        }
        return answer(method, numbers);
    }

    private static long number(String word, long least, long most) {
        Matcher m = NUMBER.matcher(word);
        if (word.isEmpty() || !m.matches()) {
            throw new IllegalStateException("no number: " + word);
        }
        long from = 0;
        if (m.group(1) != null) {
            switch (m.group(1)) {
                case "END": from = END; break;
                case "MIN": from = least; break;
                case "MAX": from = most; break;
                default: from = -4; break;
            }
        }
        return m.group(2) == null ? from : from + Long.parseLong(m.group(2));
    }

    private long answer(Method method, Object... numbers) {
        calls++;
        if (calls > MOST_CALLS) {
            throw new IllegalStateException("a test asks more than the document promises");
        }
        try {
            return ((Number) method.invoke(x, numbers)).longValue();
        } catch (IllegalAccessException | InvocationTargetException e) {
            throw new IllegalStateException("the call " + method.getName() + " failed", e);
        }
    }

    /** The text's bytes come behind the tape, and nothing else: its last eight are cut to what there is. */
    void feed(String text) {
        long had = answer(FACE.get("count"), 3);
        for (int at = 0; at < text.length(); at += 8) {
            answer(FACE.get("feed"), Due.eightOf(text, at));
        }
        if (text.length() % 8 != 0) {
            answer(FACE.get("end"), (int) had + text.length());
        }
    }

    long tell(String text) {
        feed(text);
        return answer(FACE.get("text"));
    }
}
