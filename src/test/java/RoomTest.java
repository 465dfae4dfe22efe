import java.lang.management.ManagementFactory;
import java.lang.reflect.Array;
import java.lang.reflect.Field;
import java.lang.reflect.Modifier;
import java.util.IdentityHashMap;
import java.util.Map;

/** All calls of a run live in one room: what an object takes of it, and that calls take nothing more. */
public final class RoomTest {
    private static final int MOST_OBJECTS = 300;
    private static final int MOST_ELEMENTS = 6000;

    private static int objects = 0;
    private static int elements = 0;

    public static void main(String[] args) throws Exception {
        boolean good = true;
        count(new WheelMemory(), new IdentityHashMap<>());
        if (objects > MOST_OBJECTS || elements > MOST_ELEMENTS) {
            System.out.println("a new object takes " + objects + " objects, " + elements + " fields and elements");
            good = false;
        }
        com.sun.management.ThreadMXBean thread = (com.sun.management.ThreadMXBean) ManagementFactory.getThreadMXBean();
        WheelMemory x = land();
        calls(x);
        long before = thread.getCurrentThreadAllocatedBytes();
        thread.getCurrentThreadAllocatedBytes();
        long own = thread.getCurrentThreadAllocatedBytes() - before;
        before = thread.getCurrentThreadAllocatedBytes();
        for (int i = 0; i < 200; i++) calls(x);
        long taken = thread.getCurrentThreadAllocatedBytes() - before;
        if (taken > own + 64) {
            System.out.println("calls took " + taken + " bytes");
            good = false;
        }
        System.out.println(good ? "an object takes " + objects + " objects, " + elements + " fields and elements, its calls none" : "too much is made");
        if (!good) System.exit(1);
    }

    private static void count(Object of, Map<Object, Object> seen) throws Exception {
        if (of == null || seen.put(of, of) != null) return;
        objects++;
        if (of.getClass().isArray()) {
            elements += Array.getLength(of);
            if (!of.getClass().getComponentType().isPrimitive()) {
                for (Object part : (Object[]) of) count(part, seen);
            }
            return;
        }
        for (Field f : of.getClass().getDeclaredFields()) {
            if (Modifier.isStatic(f.getModifiers())) continue;
            elements++;
            f.setAccessible(true);
            if (!f.getType().isPrimitive()) count(f.get(of), seen);
        }
    }

    private static void say(WheelMemory x, String text) {
        byte[] b = (text + " ".repeat(19 - (text.length() + 19) % 20)).getBytes(java.nio.charset.StandardCharsets.ISO_8859_1);
        for (int i = 0; i < b.length; i += 20) {
            x.feed(four(b, i), four(b, i + 4), four(b, i + 8), four(b, i + 12), four(b, i + 16));
        }
    }

    private static int four(byte[] b, int i) {
        return b[i] << 24 | b[i + 1] << 16 | b[i + 2] << 8 | b[i + 3];
    }

    private static WheelMemory land() {
        WheelMemory x = new WheelMemory();
        say(x, "land places 4 hand 20;road 1 to 3 miles 1;road 2 to 0 miles 1;road 0 to 2 miles 1;road 2 to 0 miles 1;road 2 to 0 miles 1;"
                + "road 2 to 3 miles 1;road 2 to 3 miles 1;road 3 to 2 miles 1;wheel rim 6 likes 3 2 likes 5 2;wheel rim 113;wheel rim 6 likes 7 1;"
                + "wheel rim 863 likes 3 8 likes 6 4 likes 0 4;wheel rim 7;wheel rim 401;wheel rim 0 likes 3 4;wheel rim 968 likes 7 7;"
                + "cart at 0 wheels 0 1 2 3;errand 0 to 1 by 5;");
        if (x.land() < 0) {
            System.out.println("fault " + x.fault(0) + " at " + x.fault(1));
            System.exit(1);
        }
        x.row(0, 0, 60);
        x.row(1, 3, 0);
        return x;
    }

    /** Every kind of call that reckons or keeps anything. */
    private static void calls(WheelMemory x) {
        x.image(1);
        x.feed(0x6c616e64, 0x20706c61, 0x63657320, 0x32206861, 0x6e64203a);
        x.land();
        x.end(0);
        x.back(1);
        x.drive(0, -1);
        x.swap(0, 7);
        x.grease(3);
        x.undo();
        x.anew();
        x.tell(0, 0, 3);
        x.hand(20);
        x.goes(0, 0);
        x.worn(0, 0);
        x.wants(0, 1, 0);
        x.reach(0);
        x.far(0, 1);
        x.dues();
        x.choose(0, 1);
        x.chosen(0, 1);
        x.haunts(0);
        x.meet(0, 1);
        x.circle(0);
        x.ask(1);
        x.leaves(1);
        x.votes(2, 1);
        x.dearest();
        x.mate(0);
        x.teach(0, 0);
        x.blinds(0, 1);
        x.share(0, 10000, 0);
        x.smiths();
        x.picks();
        x.luck(5, 20, 0, 40, 1);
        x.aside(0);
        x.argue(0, 1);
        x.row(2, 0, 60);
        x.paste(0, 0, 2, 0, 60);
        x.count(9);
    }
}
