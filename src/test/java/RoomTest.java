import java.lang.management.ManagementFactory;
import java.lang.reflect.Array;
import java.lang.reflect.Field;
import java.lang.reflect.Modifier;
import java.util.ArrayDeque;
import java.util.Collections;
import java.util.Deque;
import java.util.IdentityHashMap;
import java.util.Set;

/** The room that all calls of a run share: a call makes nothing that stays or goes, and an object is small. */
public final class RoomTest {
    private static final int GAMES = 20;
    // Each round takes 91 calls, and an object is used for at most 512.
    private static final int ROUNDS = 5;

    // As README.md tells.
    private static final int OBJECTS_LESS_THAN = 190;
    private static final int ELEMENTS_LESS_THAN = 2100;

    private final Deque<Object> open = new ArrayDeque<>();
    private final Set<Object> seen = Collections.newSetFromMap(new IdentityHashMap<>());
    private int elements = 0;

    public static void main(String[] args) throws Exception {
        objectIsSmall();
        callAll(games());
        BeamKeepers[] games = games();
        allocated();
        allocated();
        long before = allocated();
        long measured = allocated() - before;
        before = allocated();
        callAll(games);
        long made = allocated() - before - measured;
        // Some bytes are the machine's own; a call that makes an object makes far more.
        Check.due("bytes made by calls: " + made, made < 1000 ? 1 : 0, 1);
        Check.end();
    }

    private static void objectIsSmall() throws Exception {
        RoomTest room = new RoomTest();
        room.walk(new BeamKeepers());
        Check.due("objects: " + room.seen.size(), room.seen.size() < OBJECTS_LESS_THAN ? 1 : 0, 1);
        Check.due("fields and elements: " + room.elements, room.elements < ELEMENTS_LESS_THAN ? 1 : 0, 1);
    }

    /** Through all fields and elements of an object, and of those that it holds. */
    private void walk(Object start) throws Exception {
        meet(start);
        while (!open.isEmpty()) {
            Object object = open.pop();
            if (object.getClass().isArray()) {
                elements(object);
            } else {
                fields(object);
            }
        }
    }

    private void meet(Object object) {
        if (object != null && seen.add(object)) {
            open.push(object);
        }
    }

    private void elements(Object array) {
        boolean numbers = array.getClass().getComponentType().isPrimitive();
        for (int i = 0; i < Array.getLength(array); i++) {
            elements++;
            if (!numbers) {
                meet(Array.get(array, i));
            }
        }
    }

    private void fields(Object object) throws Exception {
        for (Field field : object.getClass().getDeclaredFields()) {
            if (Modifier.isStatic(field.getModifiers())) {
                continue;
            }
            elements++;
            if (!field.getType().isPrimitive()) {
                field.setAccessible(true);
                meet(field.get(object));
            }
        }
    }

    private static BeamKeepers[] games() {
        BeamKeepers[] games = new BeamKeepers[GAMES];
        for (int i = 0; i < GAMES; i++) {
            games[i] = new BeamKeepers();
        }
        return games;
    }

    private static void callAll(BeamKeepers[] games) {
        for (BeamKeepers game : games) {
            for (int round = 0; round < ROUNDS; round++) {
                calls(game, round);
            }
        }
    }

    private static long allocated() {
        com.sun.management.ThreadMXBean bean =
            (com.sun.management.ThreadMXBean) ManagementFactory.getThreadMXBean();
        return bean.getThreadAllocatedBytes(Thread.currentThread().getId());
    }

    private static void calls(BeamKeepers game, int i) {
        game.rock(i);
        game.light(0, 0, i % 8);
        game.ship(5, 90 - i, i);
        game.type('h');
        game.type('9');
        game.fault();
        game.doAll();
        game.clearText();
        game.card(0, 1);
        game.pass(3);
        game.wage(i % 10);
        game.keep();
        game.restore();
        game.undo();
        for (int what = 0; what < 14; what++) {
            game.cellOf(i, what);
            game.lightOf(1, what);
            game.keeperOf(1, what);
            game.shipOf(0, what);
            game.count(what);
        }
        game.isLit(0, i, 5, 0);
        game.isLit(0, i, 5, 1);
        game.why(0, i);
        game.share(i);
        game.litIn(i);
        game.ifPassed(40);
        game.bestCard(2);
    }
}
