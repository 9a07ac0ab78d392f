import java.lang.management.ManagementFactory;
import java.lang.reflect.Array;
import java.lang.reflect.Field;
import java.lang.reflect.Modifier;
import java.util.Collections;
import java.util.IdentityHashMap;
import java.util.Set;

/** All calls of a run live in one room: an object is small, and no call makes anything that is kept count of. */
public final class RoomTest {
    private static final int ROOM_OBJECTS = 600000;
    private static final int ROOM_FIELDS = 7300000;
    private static final int CALLS = 512;

    private static int sum = 0;

    public static void main(String[] args) throws IllegalAccessException {
        Check check = new Check();
        newObjects(check);
        com.sun.management.ThreadMXBean threads =
                (com.sun.management.ThreadMXBean) ManagementFactory.getThreadMXBean();
        use(Check.lettered());
        long start = threads.getCurrentThreadAllocatedBytes();
        SpokenDesk desk = new SpokenDesk();
        long made = threads.getCurrentThreadAllocatedBytes() - start;
        check.yes("a new object has " + made + " bytes, 100000 at most", made <= 100000);
        for (int s = 0; s < 16; s++) {
            Check.rule(desk, String.valueOf((char) ('a' + s)), s);
        }
        start = threads.getCurrentThreadAllocatedBytes();
        use(desk);
        long used = threads.getCurrentThreadAllocatedBytes() - start;
        check.yes("the calls made " + used + " bytes, 2000 at most", used <= 2000);
        check.end();
    }

    /** Even 512 new objects, each used or not, must find room: nothing is made behind the constructor. */
    private static void newObjects(Check check) throws IllegalAccessException {
        Set<Object> seen = Collections.newSetFromMap(new IdentityHashMap<>());
        int fields = fieldsOf(new SpokenDesk(), seen);
        int objects = seen.size();
        check.yes("a new object is made of " + objects + " objects", objects * CALLS <= ROOM_OBJECTS);
        check.yes("a new object has " + fields + " fields and elements", fields * CALLS <= ROOM_FIELDS);
    }

    private static int fieldsOf(Object object, Set<Object> seen) throws IllegalAccessException {
        if (!seen.add(object)) {
            return 0;
        }
        if (object.getClass().isArray()) {
            return Array.getLength(object);
        }
        int count = 0;
        for (Field field : object.getClass().getDeclaredFields()) {
            if (Modifier.isStatic(field.getModifiers())) {
                continue;
            }
            count++;
            field.setAccessible(true);
            Object held = field.get(object);
            if (!field.getType().isPrimitive() && held != null) {
                count += fieldsOf(held, seen);
            }
        }
        return count;
    }

    private static void use(SpokenDesk desk) {
        // "[a][b][c](d|e|f)[g]" is the text: 48 commands.
        for (int round = 0; round < 16; round++) {
            desk.feed(0x5b615d5b, 0x625d5b63, 0x5d28647c, 0x657c6629, 0x5b675d20);
            sum += desk.grammar(20);
            sum += desk.cost(1, 2, round + 1) + desk.near(1, 3) + desk.apart() + desk.pair(0);
            sum += desk.push(round % 16) + desk.push(3) + desk.hear() + desk.heard(4) + desk.again(0);
            sum += desk.distance(3, 4) + desk.sound(3, 1) + desk.pick(3, 1) + desk.place();
            desk.feed(0x61626364, 0, 0, 0, 0);
            sum += desk.read(4) + desk.drop() + desk.count(2);
            if (round < 8) {
                sum += desk.slot();
            }
            desk.feed(0x61626364, 0, 0, 0, 0);
            sum += desk.word(round % 8, round % 4 + 1);
            sum += desk.best() + desk.chosen(0);
        }
    }
}
