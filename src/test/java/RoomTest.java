import java.lang.management.ManagementFactory;
import java.lang.reflect.Array;
import java.lang.reflect.Field;
import java.lang.reflect.Modifier;
import java.util.ArrayDeque;
import java.util.Collections;
import java.util.Deque;
import java.util.IdentityHashMap;
import java.util.LinkedHashMap;
import java.util.Map;
import java.util.Set;
import java.util.function.Consumer;

/** LANGUAGE.md, rule 12, 'What a run makes is counted .. keep it small': what an object is made of, and what its calls make. */
public final class RoomTest {
    private static final int CALLS = 512;
    private static final int MOST_OBJECTS = 300;
    private static final int MOST_ELEMENTS = 2500;
    /** Of all 512 calls together: no call but text() makes an object, and text() makes one. */
    private static final long MOST_BYTES = 1024;
    private static final long MOST_BYTES_OF_TEXT = 96L * CALLS;

    private static final com.sun.management.ThreadMXBean THREADS =
            (com.sun.management.ThreadMXBean) ManagementFactory.getThreadMXBean();

    private static final String DEAREST = "figure both 3 17 60 59 0;figure both 3 16 59 58 0;figure both 3 15 58 57 0;"
            + "figure both 3 14 57 1 0;figure both 3 13 56 2 0;figure both 3 12 55 3 0;stick 0 10 300;reach 3;"
            + "vote 1 0 2 0 0;vote 2 1 3 0 0;vote 3 2 4 0 0;vote 4 3 5 0 0;vote 5 4 6 0 0;";

    public static void main(String[] args) throws Exception {
        Due d = new Due();
        ClockTeeth x = Due.of(DEAREST);
        d.due("objects, " + MOST_OBJECTS + " at most", Math.max(objectsOf(x)[0], MOST_OBJECTS), MOST_OBJECTS);
        d.due("fields and elements, " + MOST_ELEMENTS + " at most", Math.max(objectsOf(x)[1], MOST_ELEMENTS), MOST_ELEMENTS);
        long[] before = objectsOf(x);
        for (Map.Entry<String, Consumer<ClockTeeth>> call : calls().entrySet()) {
            long most = call.getKey().equals("text") ? MOST_BYTES_OF_TEXT : MOST_BYTES;
            long made = bytesOf(call.getValue());
            d.due("bytes that 512 calls of " + call.getKey() + " make, " + most + " at most", Math.max(made, most), most);
            call.getValue().accept(x);
        }
        d.due("objects behind all calls", objectsOf(x)[0], before[0]);
        d.due("fields and elements behind all calls", objectsOf(x)[1], before[1]);
        d.due("calls", calls().size(), 42);
        d.finish("RoomTest");
    }

    /** Once with an object of its own ahead, as the machine makes something of its own by each line's first run. */
    private static long bytesOf(Consumer<ClockTeeth> call) {
        ClockTeeth other = Due.of(DEAREST);
        call.accept(other);
        ClockTeeth x = Due.of(DEAREST);
        long thread = Thread.currentThread().getId();
        long before = THREADS.getThreadAllocatedBytes(thread);
        for (int i = 0; i < CALLS; i++) {
            call.accept(x);
        }
        return THREADS.getThreadAllocatedBytes(thread) - before;
    }

    private static Map<String, Consumer<ClockTeeth>> calls() {
        Map<String, Consumer<ClockTeeth>> calls = new LinkedHashMap<>();
        calls.put("feed", x -> x.feed(7379543218551332976L));
        calls.put("end", x -> x.end(0));
        calls.put("fault", x -> x.fault());
        calls.put("rule", x -> x.rule(4));
        calls.put("figure", x -> x.figure(5, 6));
        calls.put("vote", x -> x.vote(4, 4));
        calls.put("out", x -> x.out(5, 1000000000000L));
        calls.put("next", x -> x.next(5, 1000L));
        calls.put("last", x -> x.last(5, 1000L));
        calls.put("often", x -> x.often(5, 0, 1000000000000L));
        calls.put("together", x -> x.together(0, 5, 0));
        calls.put("meetings", x -> x.meetings(0, 5, 0, 1000000000000L));
        calls.put("all", x -> x.all(31, 0));
        calls.put("cycle", x -> x.cycle(63));
        calls.put("crash", x -> x.crash(0));
        calls.put("first", x -> x.first(0, 1));
        calls.put("date", x -> x.date(1000000000000L, 0));
        calls.put("day", x -> x.day(9999, 364));
        calls.put("by", x -> x.by(0, 59));
        calls.put("clashes", x -> x.clashes(0, 400));
        calls.put("stick", x -> x.stick(0, 0, 365));
        calls.put("cut", x -> x.cut(0, 0));
        calls.put("turn", x -> x.turn(0));
        calls.put("recut", x -> x.recut(0, 60, 58));
        calls.put("mend", x -> x.mend(1));
        calls.put("ask", x -> x.ask(99, 5, 60, 59, 8));
        calls.put("hold", x -> x.hold(1));
        calls.put("see", x -> x.see(5, 30000, true));
        calls.put("error", x -> x.error(5));
        calls.put("wheels", x -> x.wheels(5, 0));
        calls.put("worn", x -> x.worn(5));
        calls.put("fright", x -> x.fright(4, 0, 400));
        calls.put("stand", x -> x.stand(0, 400));
        calls.put("forget", x -> x.forget(0));
        calls.put("keep", x -> x.keep(1));
        calls.put("back", x -> x.back(1));
        calls.put("sheet", x -> x.sheet(3, 2, 40));
        calls.put("lay", x -> x.lay(3, 39, 1));
        calls.put("read", x -> x.read(3, 2, 0, 12));
        calls.put("torn", x -> x.torn());
        calls.put("count", x -> x.count(0));
        calls.put("text", x -> x.text());
        return calls;
    }

    /** How many objects and arrays an object is made of, and their fields and elements. */
    private static long[] objectsOf(Object whole) throws IllegalAccessException {
        Set<Object> seen = Collections.newSetFromMap(new IdentityHashMap<>());
        Deque<Object> open = new ArrayDeque<>();
        open.add(whole);
        seen.add(whole);
        long elements = 0;
        while (!open.isEmpty()) {
            Object one = open.remove();
            if (one.getClass().isArray()) {
                elements += Array.getLength(one);
                for (int i = 0; i < Array.getLength(one) && !one.getClass().getComponentType().isPrimitive(); i++) {
                    reach(Array.get(one, i), seen, open);
                }
                continue;
            }
            for (Field field : one.getClass().getDeclaredFields()) {
                if (!Modifier.isStatic(field.getModifiers())) {
                    elements++;
                    field.setAccessible(true);
                    reach(field.getType().isPrimitive() ? null : field.get(one), seen, open);
                }
            }
        }
        return new long[] {seen.size(), elements};
    }

    private static void reach(Object part, Set<Object> seen, Deque<Object> open) {
        if (part != null && seen.add(part)) {
            open.add(part);
        }
    }
}
