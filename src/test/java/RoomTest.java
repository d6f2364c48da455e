import java.lang.reflect.Array;
import java.lang.reflect.Field;
import java.lang.reflect.Modifier;
import java.util.ArrayDeque;
import java.util.Collections;
import java.util.Deque;
import java.util.IdentityHashMap;
import java.util.Set;

/**
 * The room that one run has, 600,000 objects and arrays with 7.3 million fields and elements: 512 objects fit into it,
 * each with six of the longest rules; that nothing else is made behind the constructor LanguageTest sees.
 */
public final class RoomTest {
    private static final int OBJECTS = 600_000 / 512;
    private static final int CELLS = 7_300_000 / 512;

    private final Set<Object> seen = Collections.newSetFromMap(new IdentityHashMap<>());
    private final Deque<Object> open = new ArrayDeque<>();
    private int cells = 0;

    public static void main(String[] args) throws Exception {
        StrawButts x = new StrawButts();
        RoomTest fresh = measured(x);
        Check.due("an object of " + fresh.seen.size() + " objects fits", 1, fresh.seen.size() <= OBJECTS ? 1 : 0);
        Check.due("an object of " + fresh.cells + " cells fits", 1, fresh.cells <= CELLS ? 1 : 0);
        String longest = "aim 1" + "+1".repeat(59);
        for (int rule = 0; rule < 6; rule++) {
            Check.due("rule", rule, Check.rule(x, longest));
        }
        Check.due("green", 1, Check.green(x, "green 20 20;ring 3 3;archer 0 1 1 30"));
        busy(x);
        RoomTest used = measured(x);
        Check.due("rules alone were made", fresh.seen.size() + 2 * 6, used.seen.size());
        Check.due("an object of " + used.cells + " cells fits", 1, used.cells <= CELLS ? 1 : 0);
        System.out.println(used.seen.size() + " objects and arrays, " + used.cells + " fields and elements");
        Check.finish();
    }

    private static void busy(StrawButts x) {
        for (int i = 0; i < 30; i++) {
            x.round();
            x.image(i % 4);
            x.note(i, 0, 3);
            x.look(40, 0);
            x.set(0, 40, 0);
            x.gusts(10, 40, 50, 0);
        }
    }

    private static RoomTest measured(Object root) throws Exception {
        RoomTest room = new RoomTest();
        room.take(root);
        while (!room.open.isEmpty()) {
            room.lookInto(room.open.pop());
        }
        return room;
    }

    private void take(Object object) {
        if (object != null && seen.add(object)) {
            open.push(object);
        }
    }

    private void lookInto(Object object) throws Exception {
        Class<?> kind = object.getClass();
        if (kind.isArray()) {
            cells += Array.getLength(object);
            for (int i = 0; !kind.getComponentType().isPrimitive() && i < Array.getLength(object); i++) {
                take(Array.get(object, i));
            }
            return;
        }
        for (Field field : kind.getDeclaredFields()) {
            if (!Modifier.isStatic(field.getModifiers())) {
                cells++;
                field.setAccessible(true);
                if (!field.getType().isPrimitive()) {
                    take(field.get(object));
                }
            }
        }
    }
}
