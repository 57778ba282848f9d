import java.lang.management.ManagementFactory;
import java.lang.reflect.Array;
import java.lang.reflect.Field;
import java.lang.reflect.Modifier;
import java.util.ArrayDeque;
import java.util.Collections;
import java.util.Deque;
import java.util.IdentityHashMap;
import java.util.Set;

/** "All memory is its own, made once": the constructor makes it, and no call makes more. */
public final class MemoryTest {
    private static final int ROUNDS = 51;
    private static final int CALLS_OF_ROUND = 10;

    private static int wrong = 0;

    private static void check(boolean holds, String what) {
        if (!holds) {
            wrong++;
            System.out.println(what);
        }
    }

    /** Ten calls, the longest way and the longest numbers among them. */
    private static long ask(FormRing x) {
        long sum = x.take(42, 925, -902);
        sum += x.form(2, 0) + x.count(2) + x.ring(4705, 1) + (x.together(41, 925, -924) ? 1 : 0);
        sum += x.sign(0) + x.bits(1) + x.word(2, 244) + x.residue(3, 1000003);
        return sum + x.take(195, -751, 723);
    }

    private static long askAll(FormRing x) {
        long sum = 0;
        for (int round = 0; round < ROUNDS; round++) {
            sum += ask(x);
        }
        return sum;
    }

    /** The object and all that its fields and elements lead to. */
    private static Set<Object> reached(Object first) throws IllegalAccessException {
        Set<Object> seen = Collections.newSetFromMap(new IdentityHashMap<>());
        Deque<Object> open = new ArrayDeque<>();
        open.add(first);
        while (!open.isEmpty()) {
            Object object = open.remove();
            if (!seen.add(object)) {
                continue;
            }
            if (object.getClass().isArray()) {
                addElements(object, open);
            } else {
                addFields(object, open);
            }
        }
        return seen;
    }

    private static void addElements(Object array, Deque<Object> open) {
        if (array.getClass().getComponentType().isPrimitive()) {
            return;
        }
        for (int k = 0; k < Array.getLength(array); k++) {
            if (Array.get(array, k) != null) {
                open.add(Array.get(array, k));
            }
        }
    }

    // Static arrays count too: an object that held one would not have its memory for itself.
    private static void addFields(Object object, Deque<Object> open) throws IllegalAccessException {
        for (Field field : object.getClass().getDeclaredFields()) {
            field.setAccessible(true);
            Object value = field.getType().isPrimitive() ? null : field.get(object);
            if (value != null && !(value instanceof String)) {
                open.add(value);
            }
        }
    }

    private static long size(Set<Object> objects) {
        long size = 0;
        for (Object object : objects) {
            if (object.getClass().isArray()) {
                size += Array.getLength(object);
                continue;
            }
            for (Field field : object.getClass().getDeclaredFields()) {
                size += Modifier.isStatic(field.getModifiers()) ? 0 : 1;
            }
        }
        return size;
    }

    private static void itsOwn() throws IllegalAccessException {
        Set<Object> one = reached(new FormRing());
        Set<Object> other = reached(new FormRing());
        check(Collections.disjoint(one, other), "two objects share memory");
        check(one.size() <= 20 && size(one) <= 2000,
                "an object has " + one.size() + " objects and arrays, with " + size(one) + " fields and elements");
    }

    private static void madeOnce() throws IllegalAccessException {
        FormRing x = new FormRing();
        Set<Object> before = reached(x);
        askAll(x);
        Set<Object> after = reached(x);
        check(before.size() == after.size() && before.containsAll(after), "calls change what the object is made of");
    }

    private static void nothingMore() {
        com.sun.management.ThreadMXBean bean =
                (com.sun.management.ThreadMXBean) ManagementFactory.getThreadMXBean();
        FormRing first = new FormRing();
        FormRing second = new FormRing();
        long sum = askAll(first);
        bean.getCurrentThreadAllocatedBytes();
        long before = bean.getCurrentThreadAllocatedBytes();
        sum -= askAll(second);
        long made = bean.getCurrentThreadAllocatedBytes() - before;
        check(sum == 0, "the same calls answer otherwise");
        // The least object has 16 bytes: one of them in a round would be too many.
        check(made < 16 * ROUNDS, ROUNDS * CALLS_OF_ROUND + " calls make " + made + " bytes");
    }

    public static void main(String[] args) throws IllegalAccessException {
        itsOwn();
        madeOnce();
        nothingMore();
        System.out.println(wrong == 0 ? "the memory is as due" : wrong + " faults of memory");
        if (wrong != 0) {
            System.exit(1);
        }
    }
}
