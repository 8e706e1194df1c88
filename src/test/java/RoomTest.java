import java.lang.reflect.Array;
import java.lang.reflect.Field;
import java.lang.reflect.Modifier;
import java.util.IdentityHashMap;
import java.util.Map;

/** All calls of one run live in one room: what an object holds, and what each call makes more, is counted. */
public final class RoomTest {
    private static final long MOST_OBJECTS = 600_000;
    private static final long MOST_ELEMENTS = 7_300_000;
    private static final int MOST_CALLS = 512;

    private final Map<Object, Boolean> seen = new IdentityHashMap<>();
    private long objects;
    private long elements;

    private RoomTest() {
    }

    public static void main(String[] args) throws IllegalAccessException {
        RoomTest room = new RoomTest();
        NameGate gate = new NameGate();
        room.add(gate);
        long objects = room.objects;
        long elements = room.elements;
        Check.part("a new object");
        Check.due("objects are seen", objects > 30 ? 1 : 0, 1);
        Check.due("a hundred of them, " + objects, 100 * objects < MOST_OBJECTS ? 1 : 0, 1);
        Check.due("their elements, " + elements, 100 * elements < MOST_ELEMENTS ? 1 : 0, 1);
        Check.part("the dearest call");
        Check.load(gate, Text.greatest());
        room.add(gate);
        long moreObjects = room.objects - objects;
        long moreElements = room.elements - elements;
        Check.due("a town is made", moreElements > 100 ? 1 : 0, 1);
        Check.due("made 512 times", objects + MOST_CALLS * moreObjects < MOST_OBJECTS ? 1 : 0, 1);
        Check.due("its elements", elements + MOST_CALLS * moreElements < MOST_ELEMENTS ? 1 : 0, 1);
        Check.part("all other calls hold nothing more");
        useAll(gate);
        room.add(gate);
        Check.due("objects", room.objects - objects - moreObjects, 0);
        Check.due("elements", room.elements - elements - moreElements, 0);
        System.out.println(objects + " objects, " + elements + " elements; a town " + moreObjects + ", " + moreElements);
        Check.finish();
    }

    private static void useAll(NameGate gate) {
        gate.names(1023);
        gate.strayed(64);
        gate.hear(6, 9, 0, true);
        gate.fewest(0, 0, 9, 48, 0);
        gate.every(1);
        gate.out(0, 0, 9, 0);
        gate.way(0, 0, 9, 0);
        gate.alone(0, 0, 9, 1);
        gate.both(0, 1, 0, 9);
        gate.three(0, 1, 2, 0, 9);
        gate.vital(0, 0, 9);
        gate.until(0, 0, 9, 100);
        gate.list(0, 0, 9, 48);
        gate.price(0, 0, 9, 48);
        gate.sure(0, 0, 9, 48);
        gate.tells(0, 0, 9, 48);
        gate.days(1, 100, 0, 9, 48);
        for (int slot = 0; slot < 4; slot++) {
            gate.row(slot, 3, 60);
            gate.judge(slot);
        }
        gate.paste(0, 0, 1, 0, 60);
        for (int k = 0; k < 3; k++) {
            gate.keep(k);
            gate.back(k);
        }
    }

    /** Counts what has not been counted yet: what was given up stays counted, as in the room. */
    private void add(Object thing) throws IllegalAccessException {
        if (thing == null) {
            return;
        }
        Class<?> type = thing.getClass();
        boolean isNew = seen.put(thing, true) == null;
        objects += isNew ? 1 : 0;
        if (type.isArray()) {
            int length = Array.getLength(thing);
            elements += isNew ? length : 0;
            for (int i = 0; i < length && !type.getComponentType().isPrimitive(); i++) {
                add(Array.get(thing, i));
            }
            return;
        }
        for (Field field : type.getDeclaredFields()) {
            if (!Modifier.isStatic(field.getModifiers())) {
                elements += isNew ? 1 : 0;
                field.setAccessible(true);
                if (!field.getType().isPrimitive()) {
                    add(field.get(thing));
                }
            }
        }
    }
}
