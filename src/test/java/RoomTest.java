import java.lang.reflect.Array;
import java.lang.reflect.Field;
import java.lang.reflect.Modifier;
import java.util.ArrayDeque;
import java.util.Collections;
import java.util.Deque;
import java.util.IdentityHashMap;
import java.util.Set;

/** The room that an object takes: all calls of a run share one, so no call may keep anything new. */
public final class RoomTest {
    private static final Expect expect = new Expect("RoomTest");
    private static final int MOST_OBJECTS = 200;
    private static final int MOST_ELEMENTS = 12_000;

    /** The objects and arrays that an object holds, itself among them, and their fields and elements. */
    private record Room(int objects, int elements) {
    }

    public static void main(String[] args) throws IllegalAccessException {
        aNewObject();
        callsKeepNothing();
        refusedCallsKeepNothing();
        expect.finish();
    }

    private static void aNewObject() throws IllegalAccessException {
        Room room = roomOf(new OrderChains());
        expect.that("too many objects: " + room, room.objects() > MOST_OBJECTS ? 1 : 0, 0);
        expect.that("too many elements: " + room, room.elements() > MOST_ELEMENTS ? 1 : 0, 0);
    }

    /** More actions than are remembered, both slots, texts, looks ahead, scripts and simulations. */
    private static void callsKeepNothing() throws IllegalAccessException {
        OrderChains x = Engines.loaded("E030740050106s000s100s212");
        for (int k = 0; k < 20; k++) {
            x.poke(k, k);
            x.order(k, 3, k, 60, 5);
            x.own(k, 3, 1);
            x.start(k % 3, k);
            x.run(9);
            x.start(k % 3, k);
            x.stop(k % 3);
            x.save(k % 2);
            x.errorPosition();
            x.contested(500);
            x.firstEdit();
            x.ends(0);
            x.alone(0);
            x.chain(k, 0);
            x.runScript(3, 100012000930000L);
            x.simulate(k, 50);
        }
        x.undo();
        checkAsNew("after calls", x);
        x.restore(1);
        x.load();
        checkAsNew("after restore and load", x);
    }

    private static void refusedCallsKeepNothing() throws IllegalAccessException {
        OrderChains x = new OrderChains();
        for (int k = 0; k < 20; k++) {
            expect.fails("append", Engines.ARGUMENT, () -> x.append(-1));
            expect.fails("load", Engines.STATE, x::load);
            expect.fails("poke", Engines.INDEX, () -> x.poke(96, 0));
            expect.fails("run", Engines.STATE, () -> x.run(1));
            expect.fails("undo", Engines.STATE, x::undo);
            expect.fails("restore", Engines.STATE, () -> x.restore(0));
        }
        checkAsNew("after refused calls", x);
    }

    private static void checkAsNew(String when, OrderChains x) throws IllegalAccessException {
        expect.same("room " + when, roomOf(x).toString(), roomOf(new OrderChains()).toString());
    }

    private static Room roomOf(Object whole) throws IllegalAccessException {
        Set<Object> met = Collections.newSetFromMap(new IdentityHashMap<>());
        Deque<Object> open = new ArrayDeque<>();
        int elements = 0;
        met.add(whole);
        open.add(whole);
        while (!open.isEmpty()) {
            Object next = open.remove();
            elements += next.getClass().isArray() ? openElements(next, met, open) : openFields(next, met, open);
        }
        return new Room(met.size(), elements);
    }

    private static int openElements(Object array, Set<Object> met, Deque<Object> open) {
        int length = Array.getLength(array);
        for (int i = 0; i < length && !array.getClass().getComponentType().isPrimitive(); i++) {
            meet(Array.get(array, i), met, open);
        }
        return length;
    }

    private static int openFields(Object object, Set<Object> met, Deque<Object> open) throws IllegalAccessException {
        int fields = 0;
        for (Field field : object.getClass().getDeclaredFields()) {
            if (Modifier.isStatic(field.getModifiers())) {
                continue;
            }
            fields++;
            if (!field.getType().isPrimitive()) {
                field.setAccessible(true);
                meet(field.get(object), met, open);
            }
        }
        return fields;
    }

    private static void meet(Object object, Set<Object> met, Deque<Object> open) {
        if (object != null && met.add(object)) {
            open.add(object);
        }
    }
}
