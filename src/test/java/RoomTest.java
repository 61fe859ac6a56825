import java.lang.reflect.Array;
import java.lang.reflect.Field;
import java.lang.reflect.Modifier;
import java.util.ArrayDeque;
import java.util.Collections;
import java.util.Deque;
import java.util.IdentityHashMap;
import java.util.Set;

/**
 * What an object holds, counted: all calls of one run live in one room.
 *
 * LanguageTest sees to it that nothing is made but with the object and with an act, so what is held is what was made.
 */
final class RoomTest {
    private static final Due DUE = new Due("RoomTest");
    private static final long MOST_OBJECTS = 600000;
    private static final long MOST_ELEMENTS = 7300000;
    private static final int CALLS = 512;

    private long objects;
    private long elements;

    public static void main(String[] args) throws IllegalAccessException {
        RoomTest first = held(new ThreeDays());
        DUE.due("room: as many new objects as calls", first.objects * CALLS <= MOST_OBJECTS, true);
        DUE.due("room: their fields and elements", first.elements * CALLS <= MOST_ELEMENTS, true);

        ThreeDays x = full();
        RoomTest whole = held(x);
        DUE.due("room: an object for each act more", whole.objects - first.objects, 400);
        DUE.due("room: not many fields each", whole.elements - first.elements <= 400 * 10, true);
        askAll(x);
        RoomTest asked = held(x);
        DUE.due("room: what asks keeps nothing", asked.objects, whole.objects);
        DUE.due("room: no field or element more", asked.elements, whole.elements);
        DUE.finish();
    }

    /** 24 riders, 30 fences, rules, and 400 acts: 464 calls. */
    private static ThreeDays full() {
        ThreeDays x = new ThreeDays();
        Edges.riders(x, 24);
        Edges.fences(x, 30);
        Due.rules(x, "total=marks;out if falls>1;" + "tie ring;".repeat(20));
        for (int act = 1; act <= 380; act++) {
            x.report(act % 24, act % 12, act % 30, act, act);
        }
        for (int act = 1; act <= 20; act++) {
            x.strike(act);
        }
        return x;
    }

    private static void askAll(ThreeDays x) {
        for (int n = 0; n < 3; n++) {
            x.since(n);
            x.count(n, 17);
            x.given(n, 1);
            x.total(n);
            x.isOut(n);
            x.against(n, 3);
            x.place(n);
            x.team(n);
            x.teamPlace(n);
            x.ring(n);
            x.as(n);
            x.all(n);
            x.fault(n);
        }
    }

    private static RoomTest held(ThreeDays x) throws IllegalAccessException {
        RoomTest room = new RoomTest();
        Set<Object> seen = Collections.newSetFromMap(new IdentityHashMap<>());
        Deque<Object> next = new ArrayDeque<>();
        next.add(x);
        while (!next.isEmpty()) {
            Object one = next.remove();
            if (seen.add(one)) {
                room.objects++;
                room.take(one, next);
            }
        }
        return room;
    }

    private void take(Object one, Deque<Object> next) throws IllegalAccessException {
        if (one.getClass().isArray()) {
            elements += Array.getLength(one);
            for (int i = 0; i < Array.getLength(one) && one instanceof Object[]; i++) {
                add(((Object[]) one)[i], next);
            }
            return;
        }
        for (Field field : one.getClass().getDeclaredFields()) {
            if (!Modifier.isStatic(field.getModifiers())) {
                field.setAccessible(true);
                elements++;
                if (!field.getType().isPrimitive()) {
                    add(field.get(one), next);
                }
            }
        }
    }

    private static void add(Object held, Deque<Object> next) {
        if (held != null) {
            next.add(held);
        }
    }
}
