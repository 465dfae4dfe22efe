import java.lang.reflect.Method;
import java.util.ArrayList;
import java.util.List;
import java.util.Map;
import java.util.Random;
import java.util.TreeMap;

/** Holds the class to the Model in many runs of calls, some of them wrong, on many LANDS, some of them faulty. */
public final class ModelTest {
    private static final int RUNS = Integer.getInteger("runs", 400);
    private static final long SEED = Long.getLong("seed", 20261118L);
    private static final int CALLS = 512;

    private static final Map<String, Method> OF_CLASS = methods(WheelMemory.class);
    private static final Map<String, Method> OF_MODEL = methods(Model.class);
    private static final List<String> NAMES = new ArrayList<>(OF_CLASS.keySet());

    private final Random random;
    private WheelMemory real = new WheelMemory();
    private Model model = new Model();
    private int calls;
    private final StringBuilder log = new StringBuilder();

    private ModelTest(long seed) {
        random = new Random(seed);
    }

    private static Map<String, Method> methods(Class<?> type) {
        Map<String, Method> found = new TreeMap<>();
        for (Method m : type.getDeclaredMethods()) {
            if (java.lang.reflect.Modifier.isPublic(m.getModifiers())) found.put(m.getName(), m);
        }
        return found;
    }

    public static void main(String[] args) throws Exception {
        int wrong = 0;
        Map<String, Integer> answers = new TreeMap<>();
        for (int run = 0; run < RUNS; run++) {
            ModelTest test = new ModelTest(SEED + run);
            String told = test.run(run, answers);
            if (told != null) {
                wrong++;
                System.out.println("run " + run + ": " + told);
                if (wrong > 3) break;
            }
        }
        if (Boolean.getBoolean("tell")) System.out.println(answers);
        System.out.println(wrong == 0 ? "the class answers as the model in " + RUNS + " runs" : wrong + " runs went wrong");
        if (wrong != 0) System.exit(1);
    }

    private String run(int run, Map<String, Integer> answers) throws Exception {
        boolean dense = run % 8 == 7;
        while (calls < CALLS) {
            String wrong;
            int what = random.nextInt(100);
            if (calls == 0 || what == 0 || what < 20 && model.count(6) == 0) {
                wrong = tellLand(dense);
            } else if (what < 4 && model.count(3) > 0) {
                wrong = tellRow(what == 3);
            } else if (what == 4 && model.count(3) > 0 && random.nextInt(4) == 0) {
                wrong = driveOften();
            } else {
                String name = NAMES.get(random.nextInt(NAMES.size()));
                boolean dear = name.startsWith("cho") || name.equals("smiths") || name.equals("picks") || name.equals("dues");
                if (dear && random.nextInt(dense ? 60 : 4) != 0) continue;
                // new texts and images gone back to would else hide what acts do
                if (List.of("land", "feed", "end", "back", "anew").contains(name) && random.nextInt(5) != 0) continue;
                wrong = call(name, strained(argumentsOf(name)), answers);
            }
            if (wrong != null) return wrong + "\n" + log;
        }
        return null;
    }

    private String call(String name, long[] arguments, Map<String, Integer> answers) throws Exception {
        Object[] boxed = new Object[arguments.length];
        Class<?>[] types = OF_CLASS.get(name).getParameterTypes();
        StringBuilder said = new StringBuilder(name).append('(');
        for (int i = 0; i < boxed.length; i++) {
            boxed[i] = types[i] == long.class ? (Object) arguments[i] : (Object) (int) arguments[i];
            said.append(i > 0 ? ", " : "").append(boxed[i]);
        }
        said.append(')');
        calls++;
        int got = (Integer) OF_CLASS.get(name).invoke(real, boxed);
        int want = (Integer) OF_MODEL.get(name).invoke(model, boxed);
        log.append("  ").append(said).append(" = ").append(want).append('\n');
        if (answers != null) answers.merge(name + (want < 0 ? want : "+"), 1, Integer::sum);
        return got == want ? null : said + " answered " + got + ", due is " + want;
    }

    private String tellLand(boolean dense) throws Exception {
        String text = new Texts(random).text(dense);
        log.append("  text ").append(text.replace("\n", "\\n")).append('\n');
        if (random.nextInt(10) != 0) {
            String wrong = call("end", new long[] {0}, null);
            if (wrong != null) return wrong;
        }
        StringBuilder padded = new StringBuilder(text);
        int start = model.count(7);
        while (padded.length() % 20 != 0) padded.append(random.nextInt(20) == 0 ? 'x' : ' ');
        for (int i = 0; i < padded.length(); i += 20) {
            long[] five = new long[5];
            for (int j = 0; j < 20; j++) five[j / 4] = five[j / 4] << 8 | padded.charAt(i + j);
            for (int j = 0; j < 5; j++) five[j] = (int) five[j];
            String wrong = call("feed", five, null);
            if (wrong != null) return wrong;
        }
        String wrong = call("end", new long[] {start + (random.nextInt(4) == 0 ? padded : text).length()}, null);
        if (wrong == null) wrong = call("land", new long[] {}, null);
        if (wrong == null) wrong = call("fault", new long[] {0}, null);
        return wrong != null ? wrong : call("fault", new long[] {1}, null);
    }

    /** A SLOT's row as one would want it: where a CART can go, or what WHEELS may have been seen to do. */
    private String tellRow(boolean seen) throws Exception {
        int slot = random.nextInt(4);
        int cart = random.nextInt(model.count(3));
        int n = random.nextInt(20) == 0 ? 60 : 2 * random.nextInt(6);
        String wrong = call("row", new long[] {slot, random.nextInt(4), n}, null);
        for (int i = 0; i < n && wrong == null; i += 2) {
            int place = seen ? random.nextInt(model.count(0)) : model.ends(slot, cart);
            int road = roadOf(place);
            wrong = call("write", new long[] {slot, i, seen ? place : road}, null);
            if (wrong == null) wrong = call("write", new long[] {slot, i + 1, seen ? road : one(model.count(1))}, null);
        }
        for (String name : seen ? List.of("fits", "ask", "leaves") : List.of("goes", "ends", "ran", "astray", "worn")) {
            if (wrong == null) wrong = call(name, seen ? new long[] {slot} : new long[] {slot, cart}, null);
        }
        return wrong;
    }

    private int roadOf(int place) {
        int bits = Math.max(0, model.roads(place));
        for (int i = 0; i < 40; i++) {
            int road = random.nextInt(8);
            if ((bits >> road & 1) != 0) return road;
        }
        return random.nextInt(8);
    }

    private String driveOften() throws Exception {
        String wrong = null;
        for (int i = random.nextInt(45); i > 0 && wrong == null; i--) {
            int cart = random.nextInt(model.count(3));
            wrong = call("drive", new long[] {cart, random.nextInt(3) == 0 ? -1 : roadOf(model.cart(cart, 0))}, null);
        }
        return wrong;
    }

    /** One time in forty a number is as small or large as can be. */
    private long[] strained(long[] arguments) {
        if (arguments.length > 0 && random.nextInt(40) == 0) {
            int[] far = {Integer.MIN_VALUE, Integer.MAX_VALUE, Integer.MIN_VALUE + 1, 1000000, -1000000, 256, 65536, 32, 64};
            arguments[random.nextInt(arguments.length)] = far[random.nextInt(far.length)];
        }
        return arguments;
    }

    private long[] argumentsOf(String name) {
        return switch (name) {
            case "feed" -> new long[] {random.nextInt(), random.nextInt(), 0x20202020, random.nextInt(), 0x3b3b0a20};
            case "end" -> new long[] {between(-1, 1001)};
            case "fault" -> new long[] {between(-1, 2)};
            case "road", "errand" -> new long[] {road(), between(-1, 3)};
            case "wheel" -> new long[] {wheel(), between(-1, 3)};
            case "cart" -> new long[] {cart(), between(-1, 3)};
            case "likes", "teach" -> new long[] {wheel(), road()};
            case "roads" -> new long[] {place()};
            case "pull", "takes", "argue", "drive", "blind", "blinds" -> new long[] {cart(), roadByCart()};
            case "aside", "reach", "circle", "haunts" -> new long[] {cart()};
            case "swap", "agree" -> new long[] {wheel(), wheel()};
            case "grease", "mate", "worth" -> new long[] {wheel()};
            case "goes", "ends", "ran", "astray", "worn" -> new long[] {between(-1, 4), cart()};
            case "way", "choose", "chosen", "meet", "met" -> new long[] {cart(), place()};
            case "wants" -> new long[] {cart(), place(), between(-1, 4)};
            case "far" -> new long[] {place(), place()};
            case "roams" -> new long[] {cart(), between(-1, 41)};
            case "fits", "ask", "leaves" -> new long[] {between(-1, 4)};
            case "votes" -> new long[] {place(), road()};
            case "loved" -> new long[] {road()};
            case "lasts" -> new long[] {wheel(), between(0, 21)};
            case "share" -> new long[] {cart(), random.nextInt(4) == 0 ? between(9998, 10001) : between(-1, 200), wheel()};
            case "drawn" -> new long[] {seed(), cart(), between(-1, 41), between(-1, 3)};
            case "luck" -> new long[] {seed(), between(0, 21), cart(), between(0, 41), place()};
            case "tell" -> new long[] {wheel(), road(), between(-1, 10)};
            case "hand" -> new long[] {random.nextBoolean() ? between(-1, 9) : between(-1, 41)};
            case "count" -> new long[] {between(-1, 10)};
            case "image", "back" -> new long[] {between(-1, 3)};
            case "row" -> new long[] {between(-1, 4), between(-1, 4), random.nextInt(3) == 0 ? between(-2, 61) : 2 * between(0, 4)};
            case "write" -> new long[] {between(-1, 4), between(-1, 8), written()};
            case "paste" -> new long[] {between(-1, 4), between(-1, 6), between(-1, 4), between(-1, 6), between(-1, 6)};
            default -> new long[] {};
        };
    }

    private long written() {
        int often = random.nextInt(20);
        if (often == 0) return random.nextLong();
        if (often == 1) return 256L * random.nextInt(3) + between(-1, 4);
        return between(random.nextInt(4) == 0 ? -1 : 0, random.nextInt(12) == 0 ? 8 : Math.max(1, model.count(1) - 1));
    }

    private long between(int least, int most) {
        return least + random.nextInt(most - least + 1);
    }

    /** One there is, but for one time in sixteen. */
    private long one(int many) {
        return many > 0 && random.nextInt(16) != 0 ? random.nextInt(many) : random.nextInt(100) == 0 ? random.nextInt() : between(-2, many + 1);
    }

    private long road() {
        return one(model.count(1));
    }

    private long wheel() {
        return one(model.count(2));
    }

    private long cart() {
        return one(model.count(3));
    }

    private long place() {
        return one(model.count(0));
    }

    private long roadByCart() {
        int bits = random.nextInt(8) == 0 ? 0 : model.roads(model.cart(random.nextInt(3), 0));
        if (bits > 0) {
            for (int i = 0; i < 40; i++) {
                int road = random.nextInt(8);
                if ((bits >> road & 1) != 0) return road;
            }
        }
        return random.nextBoolean() ? -1 : road();
    }

    private long seed() {
        return switch (random.nextInt(12)) {
            case 0 -> -1;
            case 1 -> 2000000001;
            case 2 -> 2000000000;
            case 3 -> 0;
            default -> random.nextInt(2000000001);
        };
    }

    /** Texts of LANDS, most of them good. */
    private static final class Texts {
        private final Random random;
        private final StringBuilder out = new StringBuilder();

        Texts(Random random) {
            this.random = random;
        }

        String text(boolean dense) {
            if (random.nextInt(25) == 0) return " \n ".substring(random.nextInt(3));
            int places = dense ? 2 + random.nextInt(2) : 2 + random.nextInt(5);
            int roads = dense ? 8 : random.nextInt(9);
            int wheels = dense ? 4 + random.nextInt(5) : random.nextInt(9);
            List<String> lines = new ArrayList<>();
            lines.add("land places " + places + " hand " + new int[] {0, 2, 5, random.nextInt(12), 40}[random.nextInt(5)]);
            int told = 0;
            for (int r = 0; r < roads; r++) {
                int from = random.nextInt(places);
                int to = (from + 1 + random.nextInt(places - 1)) % places;
                lines.add("road " + from + " to " + to + " miles " + (1 + random.nextInt(random.nextBoolean() ? 20 : 4)));
                if (random.nextInt(6) == 0 && told < wheels) {
                    lines.add(wheel(r + 1));
                    told++;
                }
            }
            for (; told < wheels; told++) lines.add(wheel(roads));
            carts(lines, wheels, places);
            for (String line : lines) say(line);
            return random.nextInt(3) == 0 ? spoilt(out.toString()) : cutTo(out.toString());
        }

        private String wheel(int roads) {
            StringBuilder line = new StringBuilder("wheel rim " + (random.nextInt(3) == 0 ? random.nextInt(1000) : random.nextInt(40)));
            for (int i = random.nextInt(6); i > 0 && roads > 0; i--) {
                line.append(" likes ").append(random.nextInt(roads)).append(' ').append(random.nextInt(random.nextBoolean() ? 10 : 4));
            }
            return line.toString();
        }

        private void carts(List<String> lines, int wheels, int places) {
            List<Integer> left = new ArrayList<>();
            for (int w = 0; w < wheels; w++) left.add(w);
            java.util.Collections.shuffle(left, random);
            int carts = 0;
            for (int many = 1 + random.nextInt(3); carts < many && !left.isEmpty(); carts++) {
                StringBuilder line = new StringBuilder("cart at " + random.nextInt(places) + " wheels");
                for (int seats = 1 + random.nextInt(4); seats > 0 && !left.isEmpty(); seats--) {
                    line.append(' ').append(left.remove(left.size() - 1));
                }
                lines.add(line.toString());
            }
            for (int e = random.nextInt(7); e > 0 && carts > 0; e--) {
                lines.add("errand " + random.nextInt(carts) + " to " + random.nextInt(places) + " by " + (1 + random.nextInt(random.nextBoolean() ? 200 : 30)));
            }
        }

        private void say(String line) {
            String sep = random.nextInt(5) == 0 ? "\n" : random.nextInt(5) == 0 ? "" : " ";
            String said = line;
            if (random.nextInt(10) == 0) said = said.replaceAll("([a-z]) ([0-9])", "$1$2");
            if (random.nextInt(20) == 0) said = said.replaceAll("([a-z]) ([0-9])", "$1 \n00$2");
            out.append(said).append(random.nextInt(9) == 0 ? " " : "").append(';').append(sep);
        }

        private static String cutTo(String text) {
            return text.length() > 1000 ? text.substring(0, 1000) : text;
        }

        private String spoilt(String good) {
            StringBuilder text = new StringBuilder(good);
            int at = random.nextInt(text.length());
            switch (random.nextInt(9)) {
                case 0 -> text.deleteCharAt(at);
                case 1 -> text.insert(at, "aQ; 0\t19\u00e9".charAt(random.nextInt(9)));
                case 2 -> text.setCharAt(at, (char) (random.nextInt(10) < 7 ? '0' + random.nextInt(10) : random.nextInt(256)));
                case 3 -> text.setLength(at);
                case 4 -> more(text, "road 0 to 1 miles 3;", "wheel rim 4;", "errand 0 to 1 by 5;", "cart at 0 wheels 0;");
                case 5 -> more(text, "road 0 to 1 miles 3;", "wheel rim 4;cart at 1 wheels 7;", "wheel rim 4 likes 0 9 likes 0 2;", "land places 3 hand 1;");
                case 6 -> more(text, "cart at 0 wheels 0 1 2 3 4;", "cart at 1 wheels 0 0;", "cart at 0 wheels;", "errand 0 to 9 by 5;");
                case 7 -> words(text);
                default -> text.replace(0, text.length(), text.toString().replaceFirst(
                        "cart at ([0-9]) wheels [0-9 ]*;", "cart at $1 wheels " + seats() + ";"));
            }
            return cutTo(text.toString());
        }

        private String seats() {
            StringBuilder seats = new StringBuilder();
            for (int i = 3 + random.nextInt(4); i > 0; i--) seats.append(random.nextInt(10)).append(' ');
            return random.nextBoolean() ? "0 1 2 3 " + random.nextInt(9) : seats.toString();
        }

        private void more(StringBuilder text, String... lines) {
            String line = lines[random.nextInt(lines.length)];
            for (int i = 1 + random.nextInt(9); i > 0; i--) text.append(line);
        }

        private void words(StringBuilder text) {
            String[] tokens = text.toString().split("(?<=[ ;])");
            int i = random.nextInt(tokens.length);
            int j = random.nextInt(tokens.length);
            if (random.nextBoolean()) {
                String kept = tokens[i];
                tokens[i] = tokens[j];
                tokens[j] = kept;
            } else {
                tokens[i] = random.nextBoolean() ? tokens[i] + tokens[i] : random.nextInt(1200) + " ";
            }
            text.setLength(0);
            text.append(String.join("", tokens));
        }
    }
}
