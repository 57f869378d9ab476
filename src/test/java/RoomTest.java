import java.lang.management.ManagementFactory;
import java.lang.reflect.Array;
import java.lang.reflect.Field;
import java.lang.reflect.Modifier;
import java.util.Collections;
import java.util.IdentityHashMap;
import java.util.Set;

/** All calls live in one room: an object is small, and no call that answers makes anything. */
public final class RoomTest {
    private static final String LAND = "town 40 5 2 4;town 0 30 0 10;town 100 0 5 6;way 0 1 2 3;way 1 2 1 9;"
            + "crate 50 0;crate 20 0 cat;ballast 30 0;crate 60 2;odds 5 + luck / 10 - bad / 10 + crates;";

    private int objects = 0;
    private int elements = 0;
    private final Set<Object> met = Collections.newSetFromMap(new IdentityHashMap<>());

    public static void main(String[] args) throws IllegalAccessException {
        RoomTest room = new RoomTest();
        room.meet(new LuckCrates());
        System.out.println("a new object: " + room.objects + " objects, " + room.elements + " fields and elements");
        Check.due("a new object has few objects", true, room.objects <= 100);
        Check.due("512 objects have room", true, 512 * room.elements <= 7300000);
        callsMakeNothing();
        Check.end();
    }

    private void meet(Object o) throws IllegalAccessException {
        if (o == null || o instanceof String || !met.add(o)) {
            return;
        }
        objects++;
        Class<?> type = o.getClass();
        if (type.isArray()) {
            elements += Array.getLength(o);
            for (int i = 0; i < Array.getLength(o) && !type.getComponentType().isPrimitive(); i++) {
                meet(Array.get(o, i));
            }
            return;
        }
        for (Field f : type.getDeclaredFields()) {
            if (!Modifier.isStatic(f.getModifiers())) {
                elements++;
                f.setAccessible(true);
                if (!f.getType().isPrimitive()) {
                    meet(f.get(o));
                }
            }
        }
    }

    private static void callsMakeNothing() {
        com.sun.management.ThreadMXBean bean = (com.sun.management.ThreadMXBean) ManagementFactory.getThreadMXBean();
        long thread = Thread.currentThread().getId();
        LuckCrates x = new LuckCrates();
        int[] text = Texts.numbers(LAND);
        for (int warm = 0; warm < 3; warm++) {
            everyCall(x, text);
        }
        long before = bean.getThreadAllocatedBytes(thread);
        for (int i = 0; i < 10; i++) {
            everyCall(x, text);
        }
        long made = bean.getThreadAllocatedBytes(thread) - before;
        System.out.println("all calls, ten times: " + made + " bytes made");
        Check.due("calls make nothing", true, made < 10000);
    }

    private static void everyCall(LuckCrates x, int[] n) {
        for (int i = 0; i + 4 < n.length; i += 5) {
            x.feed(n[i], n[i + 1], n[i + 2], n[i + 3], n[i + 4]);
        }
        if (x.province(LAND.length()) != 0) {
            throw new IllegalStateException("the land is not as told");
        }
        x.fault();
        x.count(7);
        x.town(0, 5);
        x.crate(0, 0);
        x.send(0, 0);
        x.days(3);
        x.cat(0, true);
        x.mix(1, 2);
        x.image();
        x.open(1);
        x.undo();
        x.restore();
        x.then(0, 60, 3);
        x.even(0);
        x.out(2);
        x.luckiest(60);
        x.far(0, 2);
        x.leak(0, 2);
        x.sending(2, 40);
        x.hold(0, -1);
        x.hold(0, 0);
        x.thrower(5, 6, 7, 7);
        x.stop(5, 7, 7, 0);
        x.see(0, 1, 30);
        x.opened(0);
        x.forget();
        x.next(0);
        x.pooled(60);
        x.missed();
        x.game(0, 1, 0);
        x.years(5, 60, 0);
        x.thief(0, 50);
        x.row(0, 2, 1);
        x.hub();
        x.bridge(0);
        x.streak(0, 60);
        x.day(60, 0);
        x.level(0);
        x.lend(0);
        x.spoilt();
    }
}
