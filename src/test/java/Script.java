import java.lang.reflect.Method;
import java.lang.reflect.Modifier;
import java.util.HashMap;
import java.util.Map;
import java.util.Set;
import java.util.TreeSet;
import java.util.function.Supplier;
import java.util.regex.Matcher;
import java.util.regex.Pattern;

/**
 * Plays runs of calls that are told as texts, one object a run. Rows of such a text:
 * <pre>
 *   # why the rows behind it are there
 *   tape land places 2 hand 0;         this text comes behind the TAPE
 *   good 1 land places 2 hand 0;       an empty TAPE, this text, land(): so many LINES, and no FAULT
 *   fault 2 land places ^7 hand 0;     the same, but there is this FAULT in the place of the sign ^
 *   16 drive(0, -1) = 2 | cart(0, 0) = 2
 *                                      the promise that would be broken, and calls with what is due
 *   16 *40 swap(0, 1) = 0              the same call so often
 *   6 bad road(7, 2) : -1 8 / -1 3 = -2
 *                                      the call with each of these in place of its first, second .. number, and
 *                                      with MIN and MAX (! alone: without; - for a number that is let alone)
 *   drive(0, 3)                        whatever it answers
 *   calls 512                          so many calls were made up to here
 * </pre>
 * In texts of a LAND \n is byte 10, \xe9 byte 233. MIN, MAX, LMIN, LMAX are the least and greatest int and long.
 */
final class Script {
    private static final int MOST_CALLS = 512;
    private static final int MOST_TOLD = 40;
    private static final Pattern ROW = Pattern.compile("(?:(\\d+) )?(.*)");
    private static final Pattern CALL = Pattern.compile("(?:\\*(\\d+) )?(\\w+)\\(([^)]*)\\)(?: = (-?\\w+))?");

    private static final Pattern BAD = Pattern.compile("(\\w+)\\(([^)]*)\\) : (.*) = (-?\\w+)");

    private final Supplier<Object> maker;
    private final Map<String, Method> methods = new HashMap<>();
    private final Set<Integer> promises = new TreeSet<>();
    private int wrong;

    private String title;
    private Object x;
    private int calls;

    Script(Supplier<Object> maker) {
        this.maker = maker;
        for (Method m : maker.get().getClass().getDeclaredMethods()) {
            if (Modifier.isPublic(m.getModifiers())) {
                m.setAccessible(true);
                methods.put(m.getName(), m);
            }
        }
    }

    int wrong() {
        return wrong;
    }

    /** The promises that at least one row was about. */
    Set<Integer> promises() {
        return promises;
    }

    void play(String title, String rows) {
        this.title = title;
        x = maker.get();
        calls = 0;
        rows.lines().map(String::strip).filter(row -> !row.isEmpty() && !row.startsWith("#")).forEach(this::row);
        if (calls > MOST_CALLS) complain("a run of " + calls + " calls, of which the document promises " + MOST_CALLS);
    }

    /** Each row on an object of its own. */
    void playEach(String title, String rows) {
        rows.lines().forEach(row -> play(title, row));
    }

    private void row(String row) {
        if (row.startsWith("tape ")) {
            say(text(row.substring(5)));
        } else if (row.startsWith("good ")) {
            String[] parts = row.split(" ", 3);
            read(row, text(parts.length > 2 ? parts[2] : ""), Integer.parseInt(parts[1]), 0, -1);
        } else if (row.startsWith("fault ")) {
            String[] parts = row.split(" ", 3);
            int mark = parts[2].indexOf('^');
            if (mark < 0) throw new IllegalStateException("no sign ^ in " + row);
            String ahead = text(parts[2].substring(0, mark));
            read(row, ahead + text(parts[2].substring(mark + 1)), -4, Integer.parseInt(parts[1]), ahead.length());
        } else if (row.startsWith("calls ")) {
            if (calls != Integer.parseInt(row.substring(6))) complain("made " + calls + " calls, not as the row says: " + row);
        } else {
            calls(row);
        }
    }

    private void calls(String row) {
        Matcher m = ROW.matcher(row);
        if (!m.matches()) throw new IllegalStateException(row);
        int promise = m.group(1) == null ? 0 : Integer.parseInt(m.group(1));
        if (m.group(2).startsWith("bad ")) {
            badCalls(promise, m.group(2).substring(4));
            return;
        }
        for (String one : m.group(2).split(" \\| ")) {
            Matcher c = CALL.matcher(one.strip());
            if (!c.matches()) throw new IllegalStateException("no call: " + one + " in " + row);
            for (int i = c.group(1) == null ? 1 : Integer.parseInt(c.group(1)); i > 0; i--) {
                call(promise, c.group(2), c.group(3), c.group(4));
            }
        }
    }

    private void badCalls(int promise, String told) {
        Matcher m = BAD.matcher(told);
        if (!m.matches()) throw new IllegalStateException("no call: " + told);
        String[] good = m.group(2).split(", ");
        String[] bad = m.group(3).split(" / ");
        if (good.length != bad.length) throw new IllegalStateException("not as many: " + told);
        for (int i = 0; i < bad.length; i++) {
            if (bad[i].equals("-")) continue;
            boolean alone = bad[i].endsWith("!");
            for (String one : (alone ? bad[i].substring(0, bad[i].length() - 1).strip() : bad[i] + " MIN MAX").split(" ")) {
                String[] arguments = good.clone();
                arguments[i] = one;
                call(promise, m.group(1), String.join(", ", arguments), m.group(4));
            }
        }
    }

    private void call(int promise, String name, String arguments, String want) {
        String[] parts = arguments.isBlank() ? new String[0] : arguments.split(",");
        long[] numbers = new long[parts.length];
        for (int i = 0; i < parts.length; i++) numbers[i] = number(parts[i].strip());
        int got = ask(name, numbers);
        if (want != null) {
            if (promise != 0) promises.add(promise);
            if (got != number(want)) complain("promise " + promise + ": " + name + "(" + arguments + ") answered " + got + ", due is " + want);
        }
    }

    private static long number(String said) {
        return switch (said) {
            case "MIN" -> Integer.MIN_VALUE;
            case "MAX" -> Integer.MAX_VALUE;
            case "LMIN" -> Long.MIN_VALUE;
            case "LMAX" -> Long.MAX_VALUE;
            default -> Long.decode(said);
        };
    }

    private int ask(String name, long... numbers) {
        Method m = methods.get(name);
        if (m == null || m.getParameterCount() != numbers.length) throw new IllegalStateException("no such call: " + name);
        Class<?>[] types = m.getParameterTypes();
        Object[] boxed = new Object[numbers.length];
        for (int i = 0; i < boxed.length; i++) {
            boxed[i] = types[i] == long.class ? (Object) numbers[i] : (Object) Math.toIntExact(numbers[i]);
        }
        calls++;
        try {
            return (Integer) m.invoke(x, boxed);
        } catch (ReflectiveOperationException e) {
            throw new IllegalStateException(title + ": " + name, e);
        }
    }

    private static String text(String told) {
        StringBuilder out = new StringBuilder();
        for (int i = 0; i < told.length(); i++) {
            if (told.startsWith("\\n", i)) {
                out.append('\n');
                i++;
            } else if (told.startsWith("\\x", i)) {
                out.append((char) Integer.parseInt(told.substring(i + 2, i + 4), 16));
                i += 3;
            } else {
                out.append(told.charAt(i));
            }
        }
        return out.toString();
    }

    private void say(String text) {
        int before = ask("count", 7);
        String padded = text + " ".repeat(19 - (text.length() + 19) % 20);
        for (int i = 0; i < padded.length(); i += 20) {
            long[] five = new long[5];
            for (int j = 0; j < 20; j++) five[j / 4] = five[j / 4] << 8 | padded.charAt(i + j);
            for (int j = 0; j < 5; j++) five[j] = (int) five[j];
            ask("feed", five);
        }
        if (ask("end", before + text.length()) != before + text.length()) complain("there was no room for " + text);
    }

    private void read(String row, String text, int lines, int fault, int place) {
        ask("end", 0);
        say(text);
        promises.add(4);
        promises.add(5);
        int got = ask("land");
        int gotFault = ask("fault", 0);
        int gotPlace = ask("fault", 1);
        if (got != lines || gotFault != fault || gotPlace != place) {
            complain("promises 4, 5: " + row + "\n    land() answered " + got + ", due is " + lines
                    + "; FAULT " + gotFault + ", due is " + fault + "; its place " + gotPlace + ", due is " + place);
        }
    }

    private void complain(String what) {
        wrong++;
        if (wrong <= MOST_TOLD) System.out.println(title + ": " + what);
    }
}
