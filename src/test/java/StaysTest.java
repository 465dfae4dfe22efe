import java.lang.reflect.Method;
import java.lang.reflect.Modifier;
import java.util.ArrayList;
import java.util.List;
import java.util.Map;
import java.util.Random;
import java.util.Set;
import java.util.TreeMap;

/**
 * Behind a call that only asks, and behind every call that is refused, all is as it was: an object to which it was
 * put tells the same of itself as its twin to which it was not.
 */
public final class StaysTest {
    private static final int MOST_CALLS = 512;
    private static final Set<String> ACTS = Set.of("feed", "end", "land", "drive", "swap", "grease", "undo", "anew", "tell", "hand",
            "image", "back", "row", "write", "paste");
    private static final int[] NUMBERS = {Integer.MIN_VALUE, -2, -1, 0, 1, 2, 3, 4, 6, 8, 9, 10, 20, 21, 40, 41, 60, 61, 1000, 1001, Integer.MAX_VALUE};

    private static final String LAND = "land places 4 hand 40;road 0 to 1 miles 1;road 0 to 1 miles 10;road 1 to 0 miles 20;road 1 to 2 miles 7;"
            + "wheel rim 30 likes 0 1 likes 3 4;wheel rim 999 likes 1 5;wheel rim 8 likes 2 9;wheel rim 5;"
            + "cart at 0 wheels 0 1;cart at 3 wheels 2;errand 0 to 2 by 8;errand 1 to 3 by 1;";

    private static final Map<String, Method> METHODS = new TreeMap<>();
    private static int wrong = 0;
    private static int compared = 0;
    private static final Set<String> REFUSED = new java.util.TreeSet<>();

    private final WheelMemory x = new WheelMemory();
    private int calls;

    public static void main(String[] args) throws Exception {
        for (Method m : WheelMemory.class.getDeclaredMethods()) {
            if (Modifier.isPublic(m.getModifiers())) METHODS.put(m.getName(), m);
        }
        for (int setup = 0; setup < 7 && wrong < 20; setup++) compareAll(setup);
        for (String refusal : new String[] {"feed -1", "end -1", "land -4", "drive -2", "drive -5", "swap -2", "swap -5", "grease -2", "grease -5",
            "undo -2", "undo -5", "anew -2", "tell -2", "tell -5", "hand -2", "hand -5", "image -2", "back -2", "back -6", "row -2", "row -3",
            "write -2", "write -6", "write -7", "paste -2", "paste -6", "paste -7", "paste -8"}) {
            if (!REFUSED.contains(refusal)) {
                wrong++;
                System.out.println("never refused: " + refusal);
            }
        }
        System.out.println(wrong == 0 ? "all stays behind " + compared + " calls" : wrong + " calls changed what they must not");
        if (wrong != 0) System.exit(1);
    }

    private static void compareAll(int setup) throws Exception {
        List<Integer> due = told(setup, null, null);
        Random random = new Random(setup);
        for (Map.Entry<String, Method> e : METHODS.entrySet()) {
            int count = e.getValue().getParameterCount();
            // questions of one kind go the same way, so a few of each do
            int rounds = count == 0 ? 1 : ACTS.contains(e.getKey()) ? 120 : 25;
            for (int i = 0; i < rounds && wrong < 20; i++) {
                long[] numbers = new long[count];
                for (int j = 0; j < count; j++) numbers[j] = random.nextInt(3) == 0 ? NUMBERS[random.nextInt(NUMBERS.length)] : random.nextInt(4);
                compare(setup, due, e.getKey(), numbers);
            }
        }
    }

    private static void compare(int setup, List<Integer> due, String name, long[] numbers) throws Exception {
        List<Integer> got = told(setup, name, numbers);
        if (got == null) return;
        compared++;
        // the FAULT of a land() that was refused is a new one
        int from = name.equals("land") ? 2 : 0;
        if (!got.subList(from, got.size()).equals(due.subList(from, due.size()))) {
            wrong++;
            int at = from;
            while (got.get(at).equals(due.get(at))) at++;
            System.out.println(name + java.util.Arrays.toString(numbers) + " in setup " + setup + " changed answer " + at
                    + " of the telling from " + due.get(at) + " to " + got.get(at));
        }
    }

    /** What an object tells of itself behind that call; null if the call did something, as it may. */
    private static List<Integer> told(int setup, String name, long[] numbers) throws Exception {
        StaysTest one = new StaysTest();
        one.setUp(setup);
        if (name != null) {
            int answer = one.call(name, numbers);
            if (ACTS.contains(name)) {
                if (answer >= 0) return null;
                REFUSED.add(name + " " + answer);
            }
        }
        List<Integer> told = one.tellAll();
        if (one.calls > MOST_CALLS) throw new IllegalStateException("too many calls: " + one.calls);
        return told;
    }

    private int call(String name, long... numbers) throws Exception {
        Method m = METHODS.get(name);
        Class<?>[] types = m.getParameterTypes();
        Object[] boxed = new Object[numbers.length];
        for (int i = 0; i < boxed.length; i++) boxed[i] = types[i] == long.class ? (Object) numbers[i] : (Object) (int) numbers[i];
        calls++;
        return (Integer) m.invoke(x, boxed);
    }

    private void say(String text) throws Exception {
        int before = call("count", 7);
        String padded = text + " ".repeat(19 - (text.length() + 19) % 20);
        for (int i = 0; i < padded.length(); i += 20) {
            long[] n = new long[5];
            for (int j = 0; j < 20; j++) n[j / 4] = (int) (n[j / 4] << 8 | padded.charAt(i + j));
            call("feed", n);
        }
        call("end", before + text.length());
    }

    private void setUp(int setup) throws Exception {
        if (setup == 0) return;
        if (setup == 1) {
            say("land places 2 hand 0;road 0 to");
            return;
        }
        say(LAND);
        call("land");
        if (setup == 2) return;
        if (setup == 3) {
            // a TAPE that is full, but of two bytes
            for (int i = 0; i < 49; i++) call("feed", 0x20202020, 0x20202020, 0x20202020, 0x20202020, 0x20202020);
            call("feed", 0x6c616e64, 0x20706c61, 0x63657320, 0x32206861, 0x6e642038);
            call("end", 998);
            return;
        }
        rows();
        call("image", 0);
        if (setup == 5) {
            for (int i = 0; i < 12; i++) call("swap", 1, 3);
            for (int i = 0; i < 12; i++) call("grease", 2);
            for (int i = 0; i < 16; i++) call("drive", 0, -1);
        } else {
            call("drive", 0, 2);
            call("swap", 2, 0);
            call("grease", 1);
        }
        call("image", 2);
        if (setup == 6) {
            call("anew");
            call("tell", 1, 1, 2);
            call("hand", 3);
            say("land places 3 hand 9;wheel rim 1;wheel rip");
        }
    }

    private void rows() throws Exception {
        call("row", 0, 0, 5);
        call("row", 1, 2, 3);
        call("row", 2, 0, 4);
        for (int i = 0; i < 5; i++) call("write", 0, i, i % 3);
        call("write", 1, 0, 2);
        call("write", 1, 1, 1);
        call("write", 2, 0, 1);
        call("write", 2, 1, 3);
        call("write", 2, 2, 2);
        call("write", 2, 3, 3);
    }

    private List<Integer> tellAll() throws Exception {
        List<Integer> told = new ArrayList<>();
        for (int what = 0; what < 2; what++) told.add(call("fault", what));
        for (int what = 0; what < 10; what++) told.add(call("count", what));
        for (int r = 0; r < 4; r++) for (int what = 0; what < 3; what++) told.add(call("road", r, what));
        for (int e = 0; e < 2; e++) for (int what = 0; what < 3; what++) told.add(call("errand", e, what));
        tellState(told);
        for (int slot = 0; slot < 4; slot++) {
            for (String name : new String[] {"goes", "ends", "ran", "worn"}) told.add(call(name, slot, 0));
            told.add(call("fits", slot));
            // how long a row is
            told.add(call("write", slot, 3, 0));
            told.add(call("write", slot, 4, 0));
        }
        for (int to = 0; to < 4; to++) told.add(call("paste", 0, 0, to, 0, 1));
        for (int i = call("count", 8); i > 0; i--) {
            told.add(call("undo"));
            told.add(call("cart", 0, 0));
            told.add(call("cart", 0, 1));
            told.add(call("wheel", 2, 2));
        }
        tellState(told);
        for (int k = 0; k < 3; k++) {
            told.add(call("back", k));
            told.add(call("count", 5));
            told.add(call("count", 8));
            told.add(call("cart", 0, 0));
            told.add(call("wheel", 1, 2));
        }
        // the TAPE: it is read, as it is and with a sign more
        told.add(call("land"));
        told.add(call("fault", 0));
        told.add(call("fault", 1));
        told.add(call("feed", 0x3b202020, 0x20202020, 0x20202020, 0x20202020, 0x20202020));
        told.add(call("land"));
        told.add(call("fault", 0));
        told.add(call("fault", 1));
        told.add(call("count", 6));
        return told;
    }

    private void tellState(List<Integer> told) throws Exception {
        for (int w = 0; w < 4; w++) {
            for (int r = 0; r < 4; r++) told.add(call("likes", w, r));
            for (int what = 0; what < 2; what++) told.add(call("wheel", w, what));
        }
        for (int c = 0; c < 2; c++) for (int what = 0; what < 3; what++) told.add(call("cart", c, what));
    }
}
