import com.sun.management.ThreadMXBean;
import java.lang.management.ManagementFactory;
import java.lang.reflect.Array;
import java.lang.reflect.Field;
import java.lang.reflect.Modifier;
import java.util.Collections;
import java.util.IdentityHashMap;
import java.util.Set;

/** All calls of a run share one room: a bench is small, and its calls make nothing more. */
final class RoomTest {
    // Fields and elements of one bench; a run has some 7.3 million for all that it makes.
    private static final int ROOM = 10_000;
    // One object in each of the rounds of calls would be more.
    private static final int BYTES = 150;
    // A few calls more than a round has.
    private static final int ROUND = 36;
    private static final long[] SHAPES = {Check.bytes(5, 4, 2, 1),
        Check.bytes(6, 5, 4, 3, 2, 1, 1), Check.bytes(4, 3, 2, 1),
        Check.bytes(2, 2, 2, 2, 2, 1, 1)};
    private static final int[] READING = {7, 6, 5, 5, 4, 4, 3, 3, 2, 2, 1, 1};

    public static void main(String[] args) throws IllegalAccessException {
        Check.sentence("keep it small");
        Check.isTrue("a new bench has little: " + fieldsOf(new TableauBench()),
                fieldsOf(new TableauBench()) <= ROOM);
        TableauBench used = new TableauBench();
        allCalls(used);
        Check.same("a used bench has no more", fieldsOf(used), fieldsOf(new TableauBench()));
        callsMakeNothing();
        Check.end();
    }

    private static void callsMakeNothing() {
        // Not every machine can tell; LanguageTest looks into the source for the same.
        if (!(ManagementFactory.getThreadMXBean() instanceof ThreadMXBean threads)
                || !threads.isThreadAllocatedMemorySupported()) {
            return;
        }
        long id = Thread.currentThread().getId();
        // The first time the machine makes objects of its own.
        allCalls(new TableauBench());
        threads.getThreadAllocatedBytes(id);
        TableauBench b = new TableauBench();
        long before = threads.getThreadAllocatedBytes(id);
        allCalls(b);
        long made = threads.getThreadAllocatedBytes(id) - before;
        Check.isTrue("bytes made by the calls of a run: " + made, made < BYTES);
    }

    /** Every kind of call, as often as the 512 calls of an object allow; none of them throws. */
    private static void allCalls(TableauBench b) {
        for (int round = 0; round < 512 / ROUND; round++) {
            fillSlotsAndWord(b);
            b.conjugate(2);
            b.rank(1);
            b.row(1, 3);
            b.standard(1);
            b.fillings(0, 0);
            b.coefficient(2, 0, 1);
            b.character(0, 3);
            b.unrank(3, 24, 3);
            b.insert(0, round % 2 == 0);
            b.recover(1);
            b.read(1);
            b.equivalent();
            b.length(1);
            b.at(1, 3);
            b.entry(true, 1, 1);
            b.rectify(2, 1, 0, round % 3);
            b.draw(1, round);
            b.turn();
        }
    }

    /** The word is a reading for slots 2 and 1. */
    private static void fillSlotsAndWord(TableauBench b) {
        b.shape(0, SHAPES[0]);
        b.shape(1, SHAPES[1]);
        b.shape(2, SHAPES[2]);
        b.shape(3, SHAPES[3]);
        b.cut(0, 0);
        for (int v : READING) {
            b.letter(0, v);
        }
    }

    /** The fields of an object and of all that hangs on it; an array's are its elements. */
    private static long fieldsOf(Object root) throws IllegalAccessException {
        return fieldsOf(root, Collections.newSetFromMap(new IdentityHashMap<>()));
    }

    private static long fieldsOf(Object o, Set<Object> seen) throws IllegalAccessException {
        if (o == null || !seen.add(o)) {
            return 0;
        }
        long sum = 0;
        if (o.getClass().isArray()) {
            boolean objects = !o.getClass().getComponentType().isPrimitive();
            for (int i = 0; i < Array.getLength(o); i++) {
                sum += 1 + (objects ? fieldsOf(Array.get(o, i), seen) : 0);
            }
            return sum;
        }
        for (Field f : o.getClass().getDeclaredFields()) {
            if (!Modifier.isStatic(f.getModifiers())) {
                f.setAccessible(true);
                sum += 1 + (f.getType().isPrimitive() ? 0 : fieldsOf(f.get(o), seen));
            }
        }
        return sum;
    }
}
