import java.lang.reflect.Array;
import java.lang.reflect.Field;
import java.lang.reflect.Modifier;
import java.util.ArrayDeque;
import java.util.Collections;
import java.util.IdentityHashMap;
import java.util.Set;

/** All calls of a run live in one room: what an object keeps stays small, new and after its dearest calls. */
public final class RoomTest {
    private static final int CALLS = 512, NAMES = 25;
    private static final Due due = new Due();

    private int objects;
    private long elements;

    public static void main(String[] args) throws IllegalAccessException {
        aNewObjectIsSmall();
        theDearestCallsAreCheap();
        callsThatOnlyAskKeepNothing();
        due.end();
    }

    private static void aNewObjectIsSmall() throws IllegalAccessException {
        RoomTest room = new RoomTest();
        room.walk(new LoaderModels());
        due.is("a new object has at most 40 objects: " + room.objects, 1, room.objects <= 40 ? 1 : 0);
        due.is("a new object has at most 1000 elements: " + room.elements, 1, room.elements <= 1000 ? 1 : 0);
    }

    private static void theDearestCallsAreCheap() throws IllegalAccessException {
        LoaderModels x = new LoaderModels();
        int calls = deepLoaders(x);
        due.is("the deepest LOAD", -12, x.load(7, 5));
        int c = x.load(0, 0);
        for (int i = 0; i < 20; i++) due.is("row", i, x.row(c, 8));
        calls += 22;
        due.is("no class but that of NAME 0", 1, x.told(2));
        // A METHOD put in place of another is one more Body that was made, though it is kept no longer.
        int replaced = 0;
        for (int i = 0; calls < CALLS; calls++, i++) {
            due.is("method", 1, x.method(i % 30, i / 30 % 4, 0, i, i));
            if (i >= 120) replaced++;
        }
        RoomTest room = new RoomTest();
        room.walk(x);
        room.objects += replaced;
        room.elements += 3L * replaced;
        due.is("at most 1000 objects: " + room.objects, 1, room.objects <= 1000 ? 1 : 0);
        due.is("at most 6000 elements: " + room.elements, 1, room.elements <= 6000 ? 1 : 0);
    }

    /** As in DeepTest: 25 NAMES in a ring, each LOADER without the one where its PARENT begins. */
    private static int deepLoaders(LoaderModels x) {
        int calls = 0;
        for (int i = 0; i < NAMES; i++, calls++) x.file(5 + i, 5 + i, 5 + (i + 1) % NAMES, 1, false);
        for (int i = 1; i < 8; i++, calls++) x.loader(i - 1);
        for (int loader = 7; loader > 0; loader--) {
            for (int i = 0; i < NAMES; i++) {
                if (i == NAMES - 8 + loader) continue;
                x.bear(loader, 5 + i);
                calls++;
            }
        }
        return calls;
    }

    private static void callsThatOnlyAskKeepNothing() throws IllegalAccessException {
        LoaderModels x = new LoaderModels();
        deepLoaders(x);
        x.load(7, 5);
        RoomTest before = new RoomTest();
        before.walk(x);
        for (int i = 0; i < 100; i++) {
            x.load(7, 5);
            x.known(7, i % 40);
            x.noted(i);
            x.told(i % 7);
            x.define(1, 0);
        }
        RoomTest after = new RoomTest();
        after.walk(x);
        due.is("objects after LOADS that fail", before.objects, after.objects);
        due.is("elements after LOADS that fail", before.elements, after.elements);
    }

    /** Counts all that can be reached: an object's fields, an array's elements. */
    private void walk(Object root) throws IllegalAccessException {
        Set<Object> seen = Collections.newSetFromMap(new IdentityHashMap<>());
        ArrayDeque<Object> open = new ArrayDeque<>();
        meet(root, seen, open);
        while (!open.isEmpty()) {
            Object at = open.pop();
            objects++;
            if (at.getClass().isArray()) walkArray(at, seen, open);
            else walkFields(at, seen, open);
        }
    }

    private void walkArray(Object array, Set<Object> seen, ArrayDeque<Object> open) {
        int length = Array.getLength(array);
        elements += length;
        if (array.getClass().getComponentType().isPrimitive()) return;
        for (int i = 0; i < length; i++) meet(Array.get(array, i), seen, open);
    }

    private void walkFields(Object at, Set<Object> seen, ArrayDeque<Object> open) throws IllegalAccessException {
        for (Field field : at.getClass().getDeclaredFields()) {
            if (Modifier.isStatic(field.getModifiers())) continue;
            elements++;
            if (field.getType().isPrimitive()) continue;
            field.setAccessible(true);
            meet(field.get(at), seen, open);
        }
    }

    private static void meet(Object met, Set<Object> seen, ArrayDeque<Object> open) {
        if (met != null && seen.add(met)) open.push(met);
    }
}
