import java.lang.reflect.Array;
import java.lang.reflect.Field;
import java.lang.reflect.Modifier;
import java.util.ArrayDeque;
import java.util.Collections;
import java.util.Deque;
import java.util.IdentityHashMap;
import java.util.Set;

/** The room that objects take: even 512 new ones stay within it, and no call keeps another. */
public final class RoomTest {
    private static final int MOST_OBJECTS = 600_000 / 512;
    private static final int MOST_FIELDS = 7_300_000 / 512;

    private final Set<Object> seen = Collections.newSetFromMap(new IdentityHashMap<>());
    private final Deque<Object> open = new ArrayDeque<>();
    private int fields;

    public static void main(String[] args) throws IllegalAccessException {
        LivesAhead x = new LivesAhead();
        RoomTest first = new RoomTest();
        first.walk(x);
        Due.due("few objects: " + first.seen.size(), first.seen.size() < MOST_OBJECTS ? 1 : 0, 1);
        Due.due("few fields: " + first.fields, first.fields < MOST_FIELDS ? 1 : 0, 1);
        callAll(x);
        RoomTest then = new RoomTest();
        then.walk(x);
        Due.due("objects behind all calls", then.seen.size(), first.seen.size());
        Due.due("fields behind all calls", then.fields, first.fields);
        then.seen.removeAll(first.seen);
        Due.due("new objects behind all calls", then.seen.size(), 0);
        Due.end("RoomTest");
    }

    private static void callAll(LivesAhead x) {
        Due.type(x, "80r9,0x1,1x2;70r8,0x1,1x2");
        x.addPersons();
        x.clearText();
        for (int i = 0; i < 20; i++) {
            x.addPerson(50, 5);
            x.write(i, 2, 1);
        }
        x.keep();
        x.trust(0, 0);
        x.set(0, 24);
        x.print();
        x.check(1, 1);
        x.checkUrgent();
        x.strike(1, 0);
        x.trust(0, 90);
        x.tellDeath(0, 0);
        x.tellDeath(0, 1);
        x.tellDeath(1, 0);
        x.decide(1, true);
        x.print();
        x.correct(0, 0, 5);
        x.undo();
        x.restore();
        x.worth(0);
        x.urgent(0);
        x.page(0);
        x.source(0, 1);
        x.staleIn(999);
        Due.all(x);
    }

    private void walk(Object start) throws IllegalAccessException {
        meet(start);
        while (!open.isEmpty()) {
            Object o = open.remove();
            if (o.getClass().isArray()) {
                walkArray(o);
            } else {
                walkFields(o);
            }
        }
    }

    private void meet(Object o) {
        if (o != null && seen.add(o)) {
            open.add(o);
        }
    }

    private void walkArray(Object array) {
        fields += Array.getLength(array);
        for (int i = 0; array instanceof Object[] && i < Array.getLength(array); i++) {
            meet(Array.get(array, i));
        }
    }

    private void walkFields(Object o) throws IllegalAccessException {
        for (Field field : o.getClass().getDeclaredFields()) {
            if (!Modifier.isStatic(field.getModifiers())) {
                fields++;
                field.setAccessible(true);
                if (!field.getType().isPrimitive()) {
                    meet(field.get(o));
                }
            }
        }
    }
}
