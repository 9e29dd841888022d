import java.lang.reflect.Array;
import java.lang.reflect.Field;
import java.lang.reflect.Modifier;
import java.util.ArrayDeque;
import java.util.Collections;
import java.util.IdentityHashMap;
import java.util.List;
import java.util.Objects;
import java.util.Set;
import java.util.stream.Stream;

/** The room that all calls of one run share: what an object takes new, and at the worst. */
final class RoomTest {
    private static final long ROOM_OBJECTS = 600_000;
    private static final long ROOM_ELEMENTS = 7_300_000;
    private static final int CALLS = 512;
    private static final int ROUNDS = 20;

    public static void main(String[] args) throws IllegalAccessException {
        Checks c = new Checks();
        PatternPairs x = new PatternPairs();
        long[] fresh = size(x);
        System.out.println("new: " + fresh[0] + " objects, " + fresh[1] + " elements");
        c.due("512 new objects fit", fresh[0] * CALLS < ROOM_OBJECTS && fresh[1] * CALLS < ROOM_ELEMENTS, true);
        useAtTheWorst(x);
        long[] worst = size(x);
        System.out.println("worst: " + worst[0] + " objects, " + worst[1] + " elements");
        c.due("the worst object is small", worst[1] < ROOM_ELEMENTS / 20, true);
        c.due("the worst object has few parts", worst[0] < ROOM_OBJECTS / CALLS, true);
        callsMakeNothing(c, x);
        c.close();
    }

    private static void useAtTheWorst(PatternPairs x) {
        StringBuilder all = new StringBuilder("(a|\\n|\\t|\\r|[ -)])|");
        for (char b = ' '; b <= '~'; b++) {
            all.append("[").append("\\/]-^".indexOf(b) >= 0 ? "\\" : "").append(b).append("]|");
        }
        String many = all + "a" + "c".repeat(149) + "|b" + "c".repeat(149);
        Checks.pattern(x, 0, many);
        Checks.pattern(x, 1, many);
        x.first(0);
        Checks.pattern(x, 0, "(" + "a".repeat(199) + ")+");
        Checks.pattern(x, 1, "a".repeat(197) + "(" + "a".repeat(198) + ")*");
        x.first(3);
        Checks.pattern(x, 0, "(".repeat(40) + ")".repeat(40));
    }

    /** Bytes that the machine gives out tell what calls make; exceptions apart, that is nothing. */
    private static void callsMakeNothing(Checks c, PatternPairs x) {
        com.sun.management.ThreadMXBean bean =
            (com.sun.management.ThreadMXBean) java.lang.management.ManagementFactory.getThreadMXBean();
        long id = Thread.currentThread().getId();
        allCalls(x);
        long before = bean.getThreadAllocatedBytes(id);
        for (int i = 0; i < ROUNDS; i++) {
            allCalls(x);
        }
        long made = bean.getThreadAllocatedBytes(id) - before;
        System.out.println(ROUNDS + " rounds of calls made " + made + " bytes");
        c.due("calls make nothing", made < 2_000, true);
    }

    private static void allCalls(PatternPairs x) {
        x.feed(0x28617c62, 0x292a6162, 0, 0, 0);
        x.end(8);
        x.set(0);
        x.feed(0x61622a00, 0, 0, 0, 0);
        x.end(3);
        x.set(1);
        x.fits(0);
        x.empty(1);
        x.count(0, 12);
        for (int kind = 0; kind < 5; kind++) {
            x.first(kind);
        }
        x.place();
    }

    /** How many objects and arrays hang on this one, and how many fields and elements they have. */
    private static long[] size(Object root) throws IllegalAccessException {
        Set<Object> known = Collections.newSetFromMap(new IdentityHashMap<>());
        ArrayDeque<Object> open = new ArrayDeque<>(List.of(root));
        long elements = 0;
        while (!open.isEmpty()) {
            Object at = open.remove();
            if (!known.add(at)) {
                continue;
            }
            if (at.getClass().isArray()) {
                elements += Array.getLength(at);
                if (at instanceof Object[]) {
                    Stream.of((Object[]) at).filter(Objects::nonNull).forEach(open::add);
                }
                continue;
            }
            for (Field field : at.getClass().getDeclaredFields()) {
                if (!Modifier.isStatic(field.getModifiers())) {
                    elements++;
                    field.setAccessible(true);
                    if (!field.getType().isPrimitive() && field.get(at) != null) {
                        open.add(field.get(at));
                    }
                }
            }
        }
        return new long[] {known.size(), elements};
    }
}
