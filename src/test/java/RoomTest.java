import com.sun.management.ThreadMXBean;
import java.lang.management.ManagementFactory;
import java.lang.reflect.Array;
import java.lang.reflect.Field;
import java.lang.reflect.Modifier;
import java.util.ArrayDeque;
import java.util.Collections;
import java.util.Deque;
import java.util.IdentityHashMap;
import java.util.Set;

/** The room that a run takes: a city is small, and no call but those that add something makes an object. */
public final class RoomTest {
    private static final int CALLS = 512;
    private static final int TIMES = 20;
    private static final int MOST_OBJECTS = 1000;
    private static final int MOST_ELEMENTS = 5000;

    private static final Check check = new Check("RoomTest");
    private static final ThreadMXBean threads = (ThreadMXBean) ManagementFactory.getThreadMXBean();

    public static void main(String[] args) throws Exception {
        size("a new city", new Lampwick());
        size("a full city", Cities.full());
        size("a city of many charges", charged());
        makesNothing();
        check.end();
    }

    private static Lampwick charged() {
        Lampwick city = new Lampwick();
        for (int i = 0; i < CALLS; i++) {
            city.charge(i % 4, 1);
        }
        return city;
    }

    private static void size(String name, Lampwick city) throws IllegalAccessException {
        Set<Object> found = Collections.newSetFromMap(new IdentityHashMap<>());
        Deque<Object> left = new ArrayDeque<>();
        left.add(city);
        int elements = 0;
        while (!left.isEmpty()) {
            Object next = left.remove();
            if (found.add(next)) {
                elements += next.getClass().isArray() ? addElements(next, left) : addFields(next, left);
            }
        }
        check.judge(name + ", objects: " + found.size(), true, found.size() <= MOST_OBJECTS);
        check.judge(name + ", fields and elements: " + elements, true, elements <= MOST_ELEMENTS);
    }

    private static int addElements(Object array, Deque<Object> left) {
        int length = Array.getLength(array);
        for (int i = 0; i < length && !array.getClass().getComponentType().isPrimitive(); i++) {
            addReference(Array.get(array, i), left);
        }
        return length;
    }

    private static int addFields(Object object, Deque<Object> left) throws IllegalAccessException {
        int count = 0;
        for (Class<?> type = object.getClass(); type != null; type = type.getSuperclass()) {
            for (Field field : type.getDeclaredFields()) {
                if (Modifier.isStatic(field.getModifiers())) {
                    continue;
                }
                count++;
                field.setAccessible(true);
                if (!field.getType().isPrimitive()) {
                    addReference(field.get(object), left);
                }
            }
        }
        return count;
    }

    private static void addReference(Object reference, Deque<Object> left) {
        if (reference != null) {
            left.add(reference);
        }
    }

    /** The machine itself makes objects now and then, as it reads classes, so the least of some times tells. */
    private static void makesNothing() {
        long thread = Thread.currentThread().getId();
        long least = Long.MAX_VALUE;
        for (int i = 0; i < TIMES; i++) {
            Lampwick city = Cities.full();
            long before = threads.getThreadAllocatedBytes(thread);
            changeMuch(city);
            readAll(city);
            least = Math.min(least, threads.getThreadAllocatedBytes(thread) - before);
        }
        check.judge("bytes of objects that calls make", 0L, least);
    }

    private static void changeMuch(Lampwick city) {
        city.setRetorts(7);
        city.changeLime();
        city.setPressure(3, 44);
        city.setAge(1, 3);
        city.setShut(2, true);
        city.setFrozen(3, true);
        city.setDemand(4, 9);
        city.coins(4, 9);
        city.cutOff(9, true);
        city.pay(9);
        city.mend(0);
        city.unassign(1);
        city.assign(1, 28);
        city.setIll(2, true);
        city.setStrike(false);
        city.setFog(true);
        city.setCloudy(100, true);
        for (int lighter = 0; lighter < 6; lighter++) {
            city.setIll(lighter, false);
            city.go(lighter, true);
            city.arrange(lighter);
            city.walk(lighter);
            city.next();
            city.pause(true);
        }
        city.pass(48);
        city.go(0, false);
    }

    private static void readAll(Lampwick city) {
        for (int i = 0; i < 30; i++) {
            city.state(i);
            city.of(i, 'b');
            city.of(i, 'w');
        }
        for (int i = 0; i < 6; i++) {
            city.minutes(i);
            city.shortest(i);
            city.flow(i);
            city.pressure(i);
        }
        city.holder();
        city.candles();
        city.lime();
        city.moon(3);
        city.isDue(3);
        city.owes(0);
        city.fines(0);
        city.wages();
        city.account('m');
        city.checksum();
        city.litShare();
        city.meanHours();
        city.isSound();
    }
}
