import java.lang.reflect.Method;
import java.lang.reflect.Modifier;
import java.util.ArrayList;
import java.util.List;
import java.util.Random;

/** No call ever throws or fails to end, whatever its numbers are, in any state (LANGUAGE.md, rule 7). */
public final class NeverThrowsTest {
    private static final int MOST_CALLS = 512;
    private static final int[] NUMBERS = {Integer.MIN_VALUE, Integer.MIN_VALUE + 1, -2000000001, -65536, -256, -8, -2, -1, 0, 1, 2, 3, 4, 5, 6, 7, 8, 9,
            20, 21, 31, 32, 33, 39, 40, 41, 59, 60, 61, 63, 64, 255, 256, 999, 1000, 1001, 10000, 10001, 65536, 2000000000, 2000000001,
            Integer.MAX_VALUE - 1, Integer.MAX_VALUE};

    private static final String FULL = "land places 6 hand 2;"
            + "road 0 to 1 miles 1;road 1 to 2 miles 2;road 2 to 3 miles 3;road 3 to 4 miles 4;"
            + "road 4 to 5 miles 5;road 5 to 0 miles 6;road 0 to 3 miles 7;road 1 to 4 miles 20;"
            + "wheel rim 10 likes 0 1;wheel rim 11 likes 1 2;wheel rim 12 likes 2 3;wheel rim 13 likes 3 4;"
            + "wheel rim 14 likes 4 5;wheel rim 15 likes 5 6;wheel rim 16 likes 6 7;wheel rim 999 likes 7 9;"
            + "cart at 0 wheels 0;cart at 5 wheels 1 2 3 4;cart at 3 wheels 5 6;"
            + "errand 0 to 1 by 1;errand 0 to 2 by 3;errand 1 to 0 by 5;errand 1 to 3 by 200;errand 2 to 2 by 3;errand 2 to 5 by 9;";

    private static final String[] LANDS = {
        "", "land places 2 hand 0;", "land places 6 hand 40;wheel rim 0;cart at 5 wheels 0;", "land places 3 hand 1;road 0 to 1 miles 20;",
        "land places 2 hand 3;" + "road 0 to 1 miles 20;".repeat(8) + "wheel rim 999 likes 7 9;".repeat(8) + "cart at 0 wheels 0 1 2 3;cart at 1 wheels 7;",
        FULL, FULL.substring(0, 400), "x"};

    private static final List<Method> METHODS = new ArrayList<>();

    private final Random random = new Random(20261118L);
    private WheelMemory x;
    private int calls;
    private int made;
    private int all;
    private int wrong;

    public static void main(String[] args) throws Exception {
        for (Method m : WheelMemory.class.getDeclaredMethods()) {
            if (Modifier.isPublic(m.getModifiers())) METHODS.add(m);
        }
        // reflection tells them in no order
        METHODS.sort((a, b) -> a.getName().compareTo(b.getName()));
        NeverThrowsTest test = new NeverThrowsTest();
        for (Method m : METHODS) test.everyNumber(m);
        for (int i = 0; i < 200_000 && test.wrong == 0; i++) test.anyCall();
        System.out.println(test.wrong == 0 ? "no call of " + test.all + " throws" : test.wrong + " calls went wrong");
        if (test.wrong != 0) System.exit(1);
    }

    private void say(String text) {
        String padded = text + " ".repeat(19 - (text.length() + 19) % 20);
        for (int i = 0; i < padded.length(); i += 20) {
            int[] n = new int[5];
            for (int j = 0; j < 20; j++) n[j / 4] = n[j / 4] << 8 | padded.charAt(i + j);
            x.feed(n[0], n[1], n[2], n[3], n[4]);
        }
        calls += padded.length() / 20;
    }

    /** Another object in another state each time: with and without a LAND, acts, rows, an IMAGE. */
    private void renew() {
        x = new WheelMemory();
        calls = 0;
        int kind = made++;
        say(LANDS[kind % LANDS.length]);
        x.land();
        if (kind % 3 != 0) {
            for (int slot = 0; slot < 4; slot++) {
                x.row(slot, kind / 3 % 4, new int[] {0, 2, 7, 60}[(slot + kind) % 4]);
                x.write(slot, 1, kind % 5 - 1);
                x.write(slot, 3, Long.MIN_VALUE);
            }
            calls += 12;
        }
        for (int i = kind % 5 * 10; i > 0; i--) {
            x.drive(i % 3, -1);
            x.swap(i % 8, i / 3 % 8);
            calls += 2;
        }
        if (kind % 2 != 0) x.image(kind % 3);
        if (kind % 7 == 0) say("land places 2 hand");
        calls += 2;
    }

    private void call(Method m, int[] numbers) throws Exception {
        if (x == null || calls >= MOST_CALLS) renew();
        Class<?>[] types = m.getParameterTypes();
        Object[] boxed = new Object[numbers.length];
        for (int i = 0; i < boxed.length; i++) {
            boxed[i] = types[i] == long.class ? (Object) ((long) numbers[i] * numbers[i] * (random.nextBoolean() ? 1 : -1)) : (Object) numbers[i];
        }
        calls++;
        all++;
        try {
            int answer = (Integer) m.invoke(x, boxed);
            boolean good = answer >= -8 || m.getName().equals("smiths");
            if (!good) tell(m, boxed, "answered " + answer);
        } catch (java.lang.reflect.InvocationTargetException e) {
            tell(m, boxed, "threw " + e.getCause());
        }
    }

    private void tell(Method m, Object[] numbers, String what) {
        wrong++;
        System.out.println(m.getName() + java.util.Arrays.toString(numbers) + " " + what + " in state " + (made - 1));
    }

    /** Each of its numbers is each of the odd ones, the others are whatever they are, in every LAND. */
    private void everyNumber(Method m) throws Exception {
        for (int round = 0; round < 2 * LANDS.length; round++) {
            renew();
            int count = m.getParameterCount();
            for (int i = 0; i < Math.max(1, count); i++) {
                for (int odd : NUMBERS) {
                    int[] numbers = small(count);
                    if (count > 0) numbers[i] = odd;
                    call(m, numbers);
                }
            }
        }
    }

    private int[] small(int count) {
        int[] numbers = new int[count];
        for (int i = 0; i < count; i++) numbers[i] = random.nextInt(4) == 0 ? random.nextInt(9) - 1 : random.nextInt(3);
        return numbers;
    }

    private void anyCall() throws Exception {
        Method m = METHODS.get(random.nextInt(METHODS.size()));
        // a LAND that is gone would hide the rest
        if (m.getName().equals("land") && random.nextInt(50) != 0) return;
        int[] numbers = small(m.getParameterCount());
        for (int i = 0; i < numbers.length; i++) {
            if (random.nextInt(8) == 0) numbers[i] = NUMBERS[random.nextInt(NUMBERS.length)];
        }
        call(m, numbers);
    }
}
