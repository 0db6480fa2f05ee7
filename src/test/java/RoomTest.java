import java.lang.management.ManagementFactory;
import java.lang.reflect.Array;
import java.lang.reflect.Field;
import java.lang.reflect.Modifier;
import java.util.ArrayDeque;
import java.util.Collections;
import java.util.Deque;
import java.util.IdentityHashMap;
import java.util.Set;

/** All calls of an object share one room: it is taken by the constructor, and runs take no more. */
public final class RoomTest extends TestKit {
    private static final int MOST_OBJECTS = 100;
    private static final int MOST_FIELDS_AND_ELEMENTS = 100_000;
    private static final int RUNS = 400;
    // Far below a byte for each STEP, and above what the Java machine may need for itself.
    private static final long MOST_BYTES_OF_RUNS = 100_000;

    public static void main(String[] args) throws IllegalAccessException {
        roomOfAnObject();
        runsTakeNoMore("numbers", builtin(0, integer(1), integer(2)), 5);
        runsTakeNoMore("BYTES", builtin(10, text(repeated('a', 20)), text(repeated('b', 20))), 5);
        runsTakeNoMore("LISTS", list(dataInteger(1), dataText("two")), 5);
        runsTakeNoMore("equal DATA", builtin(17, list(empty()), map()), 5);
        runsTakeNoMore("an ERROR", error(), 1);
        finish();
    }

    private static void roomOfAnObject() throws IllegalAccessException {
        fresh();
        String before = room(x);
        due("run", runOf(again(list(dataInteger(1), dataText("two")))), 5);
        due("objects, and fields and elements, after a run", room(x), before);
        String[] counts = before.split(" ");
        due("few objects", Long.parseLong(counts[0]) <= MOST_OBJECTS, true);
        due("few fields", Long.parseLong(counts[1]) <= MOST_FIELDS_AND_ELEMENTS, true);
    }

    private static void runsTakeNoMore(String what, Part part, int why) {
        fresh();
        due(what, runOf(again(part)), why);
        long before = bytesMade();
        for (int i = 0; i < RUNS; i++) {
            x.run(ALL_STEPS, ALL_MEMORY);
        }
        due("little is made by " + what, bytesMade() - before <= MOST_BYTES_OF_RUNS, true);
    }

    /** EVALUATES a part again and again until it fails. */
    private static Part again(Part part) {
        return apply(fun(f -> apply(f, f)), fun(f -> apply(fun(unused -> apply(f, f)), part)));
    }

    private static long bytesMade() {
        com.sun.management.ThreadMXBean threads =
                (com.sun.management.ThreadMXBean) ManagementFactory.getThreadMXBean();
        return threads.getThreadAllocatedBytes(Thread.currentThread().getId());
    }

    /** How many objects and arrays hang on an object, and how many fields and elements these have. */
    private static String room(Object outermost) throws IllegalAccessException {
        Set<Object> found = Collections.newSetFromMap(new IdentityHashMap<>());
        Deque<Object> open = new ArrayDeque<>();
        found.add(outermost);
        open.add(outermost);
        long slots = 0;
        while (!open.isEmpty()) {
            Object at = open.remove();
            if (at.getClass().isArray()) {
                slots += Array.getLength(at);
                continue;
            }
            for (Field field : at.getClass().getDeclaredFields()) {
                if (Modifier.isStatic(field.getModifiers())) {
                    continue;
                }
                slots++;
                field.setAccessible(true);
                Object part = field.get(at);
                if (!field.getType().isPrimitive() && part != null && found.add(part)) {
                    open.add(part);
                }
            }
        }
        return found.size() + " " + slots;
    }
}
