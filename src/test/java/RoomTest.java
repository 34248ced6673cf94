import java.lang.management.ManagementFactory;
import java.lang.reflect.Array;
import java.lang.reflect.Field;
import java.lang.reflect.Modifier;
import java.util.ArrayDeque;
import java.util.Collections;
import java.util.Deque;
import java.util.IdentityHashMap;
import java.util.Set;

/** All calls of a run live in one room: an object holds little, and no call makes anything. */
public final class RoomTest {
    private static final int CALLS = 512;
    private static final int ROUNDS = 8;
    private static final int MOST_OBJECTS = 100;
    private static final int MOST_ELEMENTS = 8000;
    private static int wrong;

    private static void hold(boolean holds, String rule) {
        if (!holds) {
            wrong++;
            System.out.println("not so: " + rule);
        }
    }

    /** How many objects and arrays can be come to from one, and how many fields and elements they have. */
    private static int[] heldBy(Object start) throws IllegalAccessException {
        Set<Object> seen = Collections.newSetFromMap(new IdentityHashMap<>());
        Deque<Object> todo = new ArrayDeque<>();
        todo.add(start);
        seen.add(start);
        int elements = 0;
        while (!todo.isEmpty()) {
            Object one = todo.remove();
            if (one.getClass().isArray()) {
                int length = Array.getLength(one);
                elements += length;
                for (int i = 0; i < length && !one.getClass().getComponentType().isPrimitive(); i++) {
                    meet(Array.get(one, i), seen, todo);
                }
                continue;
            }
            for (Field f : one.getClass().getDeclaredFields()) {
                if (!Modifier.isStatic(f.getModifiers())) {
                    elements++;
                    f.setAccessible(true);
                    if (!f.getType().isPrimitive()) {
                        meet(f.get(one), seen, todo);
                    }
                }
            }
        }
        return new int[] {seen.size(), elements};
    }

    private static void meet(Object one, Set<Object> seen, Deque<Object> todo) {
        if (one != null && seen.add(one)) {
            todo.add(one);
        }
    }

    /** Every call of the face, ordinary ones and refused ones, with the dearest most often. */
    private static int call(SnowSchool x, int i) {
        int p = i % 11;
        int t = i % 6;
        switch (i % 37) {
            case 0: return x.pupil(i % 4, 3 + i % 20, 15);
            case 1: return x.teacher(i % 4, 15);
            case 2: return x.as(p, i % 2 == 0, i % 4);
            case 3: return x.of(p, i % 11);
            case 4: return x.here(p, i % 3 != 0);
            case 5: return x.friend(p, i % 5 - 1);
            case 6: return x.wish(p, t - 1);
            case 7: return x.saw(p, 0, 9 - i % 3);
            case 8: return x.ill(t, i % 7 == 0);
            case 9: return x.terms(1 + i % 10, i % 91, i % 10, i % 9);
            case 10: return x.level(i);
            case 11: return x.may(t, i);
            case 12: return x.classing();
            case 13: return x.noon();
            case 14: return x.worth();
            case 15: return x.set(t);
            case 16: return x.lift(i % 6, (i + 1) % 7);
            case 17: return x.slope(i % 7, (i + 2) % 6, i % 10);
            case 18: return x.stop(i % 7, i % 2 == 0);
            case 19: return x.meeting(i % 7);
            case 20: return x.serves(i);
            case 21: return x.stranded(i, i % 7);
            case 22: return x.name(p, i % 101);
            case 23: return x.hand(p, i % 101);
            case 24: return x.back(p);
            case 25: return x.left();
            case 26: return x.ask(t, i % 4, 3 + i % 6, i);
            case 27: return x.hours(i % 5, 3 + i % 6);
            case 28: return x.book(p);
            case 29: return x.open(p);
            case 30: return x.choice(t, i % 2 == 0);
            case 31: return x.choose(t);
            case 32: return x.sheet(i % 5, 8 << i % 3, i % 12);
            case 33: return x.write(i % 5, i % 11, i);
            case 34: return x.copy(i % 5, i % 3, i % 4, i % 2, i % 4);
            case 35: return x.read(i % 5);
            default: return x.told(i % 8);
        }
    }

    private static int run(SnowSchool x) {
        int sum = 0;
        for (int i = 0; i < CALLS; i++) {
            sum += call(x, i);
        }
        return sum;
    }

    private static void callsMakeNothing() {
        com.sun.management.ThreadMXBean threads = (com.sun.management.ThreadMXBean) ManagementFactory.getThreadMXBean();
        long least = Long.MAX_VALUE;
        // The machine may make something of its own in one round or another, but not in each.
        for (int round = 0; round < ROUNDS; round++) {
            SnowSchool x = new SnowSchool();
            long before = threads.getCurrentThreadAllocatedBytes();
            run(x);
            least = Math.min(least, threads.getCurrentThreadAllocatedBytes() - before);
        }
        hold(least == 0, CALLS + " calls make nothing, not " + least + " bytes");
    }

    public static void main(String[] args) throws IllegalAccessException {
        SnowSchool x = new SnowSchool();
        int[] fresh = heldBy(x);
        hold(fresh[0] <= MOST_OBJECTS, "an object holds few objects: " + fresh[0]);
        hold(fresh[1] <= MOST_ELEMENTS, "an object holds few fields and elements: " + fresh[1]);
        run(x);
        int[] used = heldBy(x);
        hold(fresh[0] == used[0] && fresh[1] == used[1], "it holds no more behind " + CALLS + " calls: " + used[0]
                + " objects, " + used[1] + " elements");
        callsMakeNothing();
        System.out.println(fresh[0] + " objects, " + fresh[1] + " fields and elements; " + wrong + " not as due");
        if (wrong != 0) {
            System.exit(1);
        }
    }
}
