import java.util.ArrayList;
import java.util.Arrays;
import java.util.Comparator;
import java.util.List;
import java.util.Map;
import java.util.TreeMap;
import java.util.TreeSet;
import java.util.regex.Matcher;
import java.util.regex.Pattern;

/**
 * The document once more, as slowly and plainly as it can be said: every question is answered by doing
 * all acts again from the first, and by trying all rows, sets and picks. ModelTest holds the class to it.
 */
public final class Model {
    static final int NONE = -1;

    static final class Told {
        int lines;
        int places;
        int hand;
        List<int[]> roads = new ArrayList<>();
        List<int[]> likes = new ArrayList<>();
        List<Integer> rims = new ArrayList<>();
        List<Integer> cartPlaces = new ArrayList<>();
        List<TreeSet<Integer>> cartWheels = new ArrayList<>();
        List<int[]> errands = new ArrayList<>();

        Told twin() {
            Told t = new Told();
            t.lines = lines;
            t.places = places;
            t.hand = hand;
            for (int[] r : roads) t.roads.add(r.clone());
            for (int[] l : likes) t.likes.add(l.clone());
            t.rims.addAll(rims);
            t.cartPlaces.addAll(cartPlaces);
            for (TreeSet<Integer> w : cartWheels) t.cartWheels.add(new TreeSet<>(w));
            for (int[] e : errands) t.errands.add(e.clone());
            return t;
        }
    }

    /** How things are at some time. */
    final class Sim {
        int[][] like;
        int[] rim;
        int[] at;
        int[] miles;
        List<TreeSet<Integer>> crew = new ArrayList<>();

        Sim twin() {
            Sim s = new Sim();
            s.like = new int[like.length][];
            for (int i = 0; i < like.length; i++) s.like[i] = like[i].clone();
            s.rim = rim.clone();
            s.at = at.clone();
            s.miles = miles.clone();
            for (TreeSet<Integer> w : crew) s.crew.add(new TreeSet<>(w));
            return s;
        }

        int pull(Iterable<Integer> wheels, int road) {
            int sum = 0;
            for (int w : wheels) sum += like[w][road];
            return sum;
        }

        int turn(Iterable<Integer> wheels, int place, int wanted, int hand) {
            List<Integer> by = roadsOf(place);
            if (by.isEmpty()) return NONE;
            by.sort(Comparator.<Integer>comparingInt(r -> -(pull(wheels, r) + (r == wanted ? hand : 0)))
                    .thenComparingInt(r -> r == wanted ? 0 : 1).thenComparingInt(r -> r));
            return by.get(0);
        }

        int alone(int wheel, int place) {
            return turn(List.of(wheel), place, NONE, 0);
        }

        void runs(int wheel, int road) {
            like[wheel][road] = like[wheel][road] < 9 ? like[wheel][road] + 1 : 9;
            int rest = rim[wheel] - told.roads.get(road)[2];
            if (rest < 0) {
                rest = 0;
                Arrays.fill(like[wheel], 0);
            }
            rim[wheel] = rest;
        }

        /** The ROAD, NONE if it can't drive so. */
        int drives(int cart, int wanted) {
            List<Integer> by = roadsOf(at[cart]);
            if (by.isEmpty() || wanted != NONE && !by.contains(wanted)) return NONE;
            int road = turn(crew.get(cart), at[cart], wanted, told.hand);
            for (int w : crew.get(cart)) runs(w, road);
            int[] r = told.roads.get(road);
            at[cart] = r[0] + r[1] - at[cart];
            miles[cart] += r[2];
            return road;
        }

        int worth(int wheel) {
            int sum = 0;
            for (int r = 0; r < told.roads.size(); r++) sum += like[wheel][r] * told.roads.get(r)[2];
            return sum;
        }

        int all(int wheel) {
            return Arrays.stream(like[wheel]).sum();
        }

        int cartOf(int wheel) {
            for (int c = 0; c < crew.size(); c++) if (crew.get(c).contains(wheel)) return c;
            return NONE;
        }

        List<Integer> free() {
            List<Integer> list = new ArrayList<>();
            for (int w = 0; w < rim.length; w++) if (cartOf(w) == NONE) list.add(w);
            return list;
        }
    }

    private String tape = "";
    private Told told = new Told();
    private List<int[]> acts = new ArrayList<>();
    private int fault = 0;
    private int faultPlace = NONE;
    private final Told[] imageTold = new Told[3];
    private final List<List<int[]>> imageActs = new ArrayList<>(Arrays.asList(null, null, null));
    private final long[][] rows = new long[4][];
    private final int[] widths = new int[4];

    // ------------------------------------------------------------ the text

    public int feed(int a, int b, int c, int d, int e) {
        if (tape.length() + 20 > 1000) return NONE;
        StringBuilder more = new StringBuilder(tape);
        for (int n : new int[] {a, b, c, d, e}) {
            more.append((char) (n >>> 24)).append((char) (n >>> 16 & 255)).append((char) (n >>> 8 & 255)).append((char) (n & 255));
        }
        tape = more.toString();
        return tape.length();
    }

    public int end(int n) {
        if (n < 0 || n > tape.length()) return NONE;
        tape = tape.substring(0, n);
        return n;
    }

    private static final class Fault extends RuntimeException {
        private static final long serialVersionUID = 1L;
        final int kind;
        final int place;

        Fault(int kind, int place) {
            this.kind = kind;
            this.place = place;
        }
    }

    private static final Pattern TOKEN = Pattern.compile("[a-z]+|[0-9]+|;|[^ \n]", Pattern.DOTALL);
    private static final Map<String, String> FORMS = new TreeMap<>(Map.of(
            "land", "land places N hand N", "road", "road P to P miles N", "wheel", "wheel rim N",
            "cart", "cart at P wheels", "errand", "errand C to P by N"));

    private final class Text {
        final List<String> tokens = new ArrayList<>();
        final List<Integer> starts = new ArrayList<>();
        int next = 0;
        final Told t = new Told();

        Text() {
            Matcher m = TOKEN.matcher(tape);
            while (m.find()) {
                tokens.add(m.group());
                starts.add(m.start());
            }
            tokens.add("");
            starts.add(tape.length());
        }

        String token() {
            return tokens.get(next);
        }

        Fault at(int kind) {
            return new Fault(kind, starts.get(next));
        }

        boolean isNumber() {
            return token().matches("[0-9]+");
        }

        int number(int least, int most) {
            if (!isNumber()) throw at(1);
            java.math.BigInteger big = new java.math.BigInteger(token());
            if (big.bitLength() > 30) throw at(2);
            int n = big.intValue();
            if (n < least || n > most) throw at(2);
            next++;
            return n;
        }

        List<Integer> form(String kind) {
            List<Integer> numbers = new ArrayList<>();
            int[][] bounds = switch (kind) {
                case "land" -> new int[][] {{2, 6}, {0, 40}};
                case "road" -> new int[][] {{0, t.places - 1}, {0, t.places - 1}, {1, 20}};
                case "wheel" -> new int[][] {{0, 999}};
                case "cart" -> new int[][] {{0, t.places - 1}};
                default -> new int[][] {{0, t.cartPlaces.size() - 1}, {0, t.places - 1}, {1, 200}};
            };
            for (String part : FORMS.get(kind).split(" ")) {
                if (part.matches("[a-z]+")) {
                    if (!token().equals(part)) throw at(1);
                    next++;
                } else {
                    int i = numbers.size();
                    if (kind.equals("road") && i == 1 && isNumber()
                            && new java.math.BigInteger(token()).equals(java.math.BigInteger.valueOf(numbers.get(0)))) throw at(2);
                    numbers.add(number(bounds[i][0], bounds[i][1]));
                }
            }
            return numbers;
        }

        Told read() {
            while (!token().isEmpty()) {
                String kind = token();
                if (!FORMS.containsKey(kind) || kind.equals("land") != (t.lines == 0)) throw at(1);
                int have = switch (kind) {
                    case "road" -> t.roads.size() - 8;
                    case "wheel" -> t.rims.size() - 8;
                    case "cart" -> t.cartPlaces.size() - 3;
                    case "errand" -> t.errands.size() - 6;
                    default -> -1;
                };
                if (have >= 0) throw at(3);
                line(kind, form(kind));
                if (!token().equals(";")) throw at(1);
                next++;
                t.lines++;
            }
            return t;
        }

        void line(String kind, List<Integer> n) {
            switch (kind) {
                case "land" -> {
                    t.places = n.get(0);
                    t.hand = n.get(1);
                }
                case "road" -> t.roads.add(new int[] {n.get(0), n.get(1), n.get(2)});
                case "wheel" -> {
                    t.rims.add(n.get(0));
                    int[] like = new int[8];
                    while (token().equals("likes")) {
                        next++;
                        int road = number(0, t.roads.size() - 1);
                        like[road] = number(0, 9);
                    }
                    t.likes.add(like);
                }
                case "cart" -> cartLine(n.get(0));
                default -> t.errands.add(new int[] {n.get(0), n.get(1), n.get(2)});
            }
        }

        void cartLine(int place) {
            TreeSet<Integer> wheels = new TreeSet<>();
            if (!isNumber()) throw at(1);
            int seats = 0;
            while (isNumber()) {
                int was = next;
                int w = number(0, t.rims.size() - 1);
                next = was;
                if (++seats > 4) throw at(3);
                if (wheels.contains(w)) throw at(2);
                for (TreeSet<Integer> other : t.cartWheels) if (other.contains(w)) throw at(2);
                wheels.add(w);
                next++;
            }
            t.cartPlaces.add(place);
            t.cartWheels.add(wheels);
        }
    }

    public int land() {
        try {
            told = new Text().read();
        } catch (Fault f) {
            fault = f.kind;
            faultPlace = f.place;
            return -4;
        }
        fault = 0;
        faultPlace = NONE;
        tape = "";
        acts = new ArrayList<>();
        return told.lines;
    }

    public int fault(int what) {
        return what == 0 ? fault : what == 1 ? faultPlace : NONE;
    }

    // ------------------------------------------------------------ what there is

    private boolean isLand() {
        return told.lines > 0;
    }

    private boolean isRoad(long r) {
        return r >= 0 && r < told.roads.size();
    }

    private boolean isWheel(int w) {
        return w >= 0 && w < told.rims.size();
    }

    private boolean isCart(int c) {
        return c >= 0 && c < told.cartPlaces.size();
    }

    private boolean isPlace(long p) {
        return p >= 0 && p < told.places;
    }

    private List<Integer> roadsOf(int place) {
        List<Integer> list = new ArrayList<>();
        for (int r = 0; r < told.roads.size(); r++) {
            if (told.roads.get(r)[0] == place || told.roads.get(r)[1] == place) list.add(r);
        }
        return list;
    }

    private static int bits(Iterable<Integer> of) {
        int b = 0;
        for (int i : of) b |= 1 << i;
        return b;
    }

    private Sim now() {
        Sim s = new Sim();
        s.like = new int[told.likes.size()][];
        for (int i = 0; i < s.like.length; i++) s.like[i] = told.likes.get(i).clone();
        s.rim = told.rims.stream().mapToInt(i -> i).toArray();
        s.at = told.cartPlaces.stream().mapToInt(i -> i).toArray();
        s.miles = new int[s.at.length];
        for (TreeSet<Integer> w : told.cartWheels) s.crew.add(new TreeSet<>(w));
        for (int[] act : acts) {
            if (act[0] == 0) s.drives(act[1], act[2]);
            if (act[0] == 1) swapSeats(s, act[1], act[2]);
            if (act[0] == 2) Arrays.fill(s.like[act[1]], 0);
        }
        return s;
    }

    private static void swapSeats(Sim s, int a, int b) {
        int ca = s.cartOf(a);
        int cb = s.cartOf(b);
        if (ca != NONE) s.crew.get(ca).remove(a);
        if (cb != NONE) s.crew.get(cb).remove(b);
        if (ca != NONE) s.crew.get(ca).add(b);
        if (cb != NONE) s.crew.get(cb).add(a);
    }

    public int road(int road, int what) {
        return !isRoad(road) || what < 0 || what > 2 ? -2 : told.roads.get(road)[what];
    }

    public int likes(int wheel, int road) {
        return !isWheel(wheel) || !isRoad(road) ? -2 : now().like[wheel][road];
    }

    public int wheel(int wheel, int what) {
        if (!isWheel(wheel) || what < 0 || what > 2) return -2;
        Sim s = now();
        return what == 0 ? s.rim[wheel] : what == 1 ? s.cartOf(wheel) : s.all(wheel);
    }

    public int cart(int cart, int what) {
        if (!isCart(cart) || what < 0 || what > 2) return -2;
        Sim s = now();
        return what == 0 ? s.at[cart] : what == 1 ? bits(s.crew.get(cart)) : s.miles[cart];
    }

    public int errand(int errand, int what) {
        return errand < 0 || errand >= told.errands.size() || what < 0 || what > 2 ? -2 : told.errands.get(errand)[what];
    }

    public int roads(int place) {
        return isPlace(place) ? bits(roadsOf(place)) : -2;
    }

    // ------------------------------------------------------------ turns and acts

    public int pull(int cart, int road) {
        if (!isCart(cart) || !isRoad(road)) return -2;
        Sim s = now();
        return s.pull(s.crew.get(cart), road);
    }

    private boolean wantable(Sim s, int cart, int road) {
        return isCart(cart) && (road == NONE || roadsOf(s.at[cart]).contains(road));
    }

    public int takes(int cart, int road) {
        Sim s = now();
        return wantable(s, cart, road) ? s.turn(s.crew.get(cart), s.at[cart], road, told.hand) : -2;
    }

    public int aside(int cart) {
        if (!isCart(cart)) return -2;
        Sim s = now();
        int b = 0;
        for (int r : roadsOf(s.at[cart])) if (takes(cart, r) != r) b |= 1 << r;
        return b;
    }

    public int argue(int cart, int road) {
        Sim s = now();
        if (road == NONE || !wantable(s, cart, road)) return -2;
        for (int h = 0; h <= 40; h++) if (s.turn(s.crew.get(cart), s.at[cart], road, h) == road) return h;
        return NONE;
    }

    public int drive(int cart, int road) {
        Sim s = now();
        if (!wantable(s, cart, road)) return -2;
        if (acts.size() >= 40 || roadsOf(s.at[cart]).isEmpty()) return -5;
        acts.add(new int[] {0, cart, road});
        return now().at[cart];
    }

    public int swap(int wheel, int other) {
        if (!isWheel(wheel) || !isWheel(other) || wheel == other) return -2;
        if (acts.size() >= 40) return -5;
        acts.add(new int[] {1, wheel, other});
        return 0;
    }

    public int grease(int wheel) {
        if (!isWheel(wheel)) return -2;
        if (acts.size() >= 40) return -5;
        int was = now().all(wheel);
        acts.add(new int[] {2, wheel});
        return was;
    }

    public int undo() {
        if (!isLand()) return -2;
        if (acts.isEmpty()) return -5;
        acts.remove(acts.size() - 1);
        return acts.size();
    }

    public int anew() {
        if (!isLand()) return -2;
        int n = acts.size();
        acts.clear();
        return n;
    }

    // ------------------------------------------------------------ rows wanted

    /** how many, place, miles, astray, worn; or one number, why not. */
    private int[] trip(int slot, int cart) {
        if (slot < 0 || slot > 3 || !isCart(cart)) return new int[] {-2};
        if (rows[slot] == null) return new int[] {-6};
        for (long n : rows[slot]) if (n != NONE && !isRoad(n)) return new int[] {-2};
        Sim s = now();
        int before = s.miles[cart];
        int[] t = {0, s.at[cart], 0, NONE, NONE};
        for (long n : rows[slot]) {
            int went = s.drives(cart, (int) n);
            if (went == NONE) break;
            if (n != NONE && went != n && t[3] == NONE) t[3] = t[0];
            if (t[4] == NONE) for (int w : s.crew.get(cart)) if (s.rim[w] == 0) t[4] = t[0];
            t[0]++;
        }
        t[1] = s.at[cart];
        t[2] = s.miles[cart] - before;
        return t;
    }

    private int tripPart(int slot, int cart, int i) {
        int[] t = trip(slot, cart);
        return t.length == 1 ? t[0] : t[i];
    }

    public int goes(int slot, int cart) {
        return tripPart(slot, cart, 0);
    }

    public int ends(int slot, int cart) {
        return tripPart(slot, cart, 1);
    }

    public int ran(int slot, int cart) {
        return tripPart(slot, cart, 2);
    }

    public int astray(int slot, int cart) {
        return tripPart(slot, cart, 3);
    }

    public int worn(int slot, int cart) {
        return tripPart(slot, cart, 4);
    }

    // ------------------------------------------------------------ ways

    private static boolean better(int[] a, int[] b) {
        if (b == null) return true;
        if (a[0] != b[0]) return a[0] < b[0];
        if (a.length != b.length) return a.length < b.length;
        for (int i = 1; i < a.length; i++) if (a[i] != b[i]) return a[i] < b[i];
        return false;
    }

    /** For each PLACE the miles and the row of its best, null without. */
    private int[][] ways(Sim s, int cart) {
        int[][] best = new int[told.places][];
        tryRows(s, cart, new int[] {0}, best);
        return best;
    }

    private void tryRows(Sim s, int cart, int[] soFar, int[][] best) {
        if (better(soFar, best[s.at[cart]])) best[s.at[cart]] = soFar;
        if (soFar.length == 5) return;
        for (int r : roadsOf(s.at[cart])) {
            Sim t = s.twin();
            int road = t.drives(cart, r);
            int[] longer = Arrays.copyOf(soFar, soFar.length + 1);
            longer[soFar.length] = r;
            longer[0] += told.roads.get(road)[2];
            tryRows(t, cart, longer, best);
        }
    }

    public int way(int cart, int place) {
        if (!isCart(cart) || !isPlace(place)) return -2;
        int[] best = ways(now(), cart)[place];
        return best == null ? NONE : best[0];
    }

    public int wants(int cart, int place, int i) {
        if (!isCart(cart) || !isPlace(place)) return -2;
        int[] best = ways(now(), cart)[place];
        return best == null || i < 0 || i >= best.length - 1 ? NONE : best[i + 1];
    }

    public int reach(int cart) {
        if (!isCart(cart)) return -2;
        int b = 0;
        int[][] best = ways(now(), cart);
        for (int p = 0; p < told.places; p++) if (best[p] != null) b |= 1 << p;
        return b;
    }

    public int far(int place, int other) {
        if (!isPlace(place) || !isPlace(other)) return -2;
        int least = walk(place, other, 1 << place);
        return least == Integer.MAX_VALUE ? NONE : least;
    }

    private int walk(int place, int other, int seen) {
        if (place == other) return 0;
        int least = Integer.MAX_VALUE;
        for (int r : roadsOf(place)) {
            int[] road = told.roads.get(r);
            int then = road[0] + road[1] - place;
            if ((seen >> then & 1) == 0) {
                int rest = walk(then, other, seen | 1 << then);
                if (rest != Integer.MAX_VALUE) least = Math.min(least, rest + road[2]);
            }
        }
        return least;
    }

    public int dues() {
        if (!isLand()) return -2;
        int b = 0;
        for (int e = 0; e < told.errands.size(); e++) {
            int[] errand = told.errands.get(e);
            int miles = way(errand[0], errand[1]);
            if (miles != NONE && miles <= errand[2]) b |= 1 << e;
        }
        return b;
    }

    private int[] choice(int cart, int place) {
        Sim s = now();
        TreeSet<Integer> pool = new TreeSet<>(s.free());
        pool.addAll(s.crew.get(cart));
        int[] best = {NONE, NONE};
        for (int set = 0; set < 256; set++) {
            TreeSet<Integer> crew = new TreeSet<>();
            for (int w = 0; w < 8; w++) if ((set >> w & 1) != 0) crew.add(w);
            if (crew.size() == s.crew.get(cart).size() && pool.containsAll(crew)) {
                Sim t = s.twin();
                t.crew.set(cart, crew);
                int[] way = ways(t, cart)[place];
                if (way != null && (best[1] == NONE || way[0] < best[0])) best = new int[] {way[0], set};
            }
        }
        return best;
    }

    public int choose(int cart, int place) {
        return !isCart(cart) || !isPlace(place) ? -2 : choice(cart, place)[0];
    }

    public int chosen(int cart, int place) {
        return !isCart(cart) || !isPlace(place) ? -2 : choice(cart, place)[1];
    }

    // ------------------------------------------------------------ roaming

    private List<Integer> roaming(int cart, int n) {
        Sim s = now();
        List<Integer> places = new ArrayList<>(List.of(s.at[cart]));
        for (int i = 0; i < n; i++) {
            s.drives(cart, NONE);
            places.add(s.at[cart]);
        }
        return places;
    }

    public int roams(int cart, int n) {
        return !isCart(cart) || n < 0 || n > 40 ? -2 : roaming(cart, n).get(n);
    }

    public int circle(int cart) {
        if (!isCart(cart)) return -2;
        List<Integer> places = roaming(cart, 40);
        if (roadsOf(places.get(0)).isEmpty()) return NONE;
        for (int t = 1; t <= 40; t++) if (places.subList(0, t).contains(places.get(t))) return t;
        return NONE;
    }

    public int haunts(int cart) {
        if (!isCart(cart)) return -2;
        int[] often = new int[6];
        for (int p : roaming(cart, 40)) often[p]++;
        int most = Arrays.stream(often).max().getAsInt();
        for (int p = 0; p < 6; p++) if (often[p] == most) return p;
        return NONE;
    }

    private int hops(int from, int to) {
        TreeSet<Integer> can = new TreeSet<>(List.of(from));
        for (int n = 0; n <= 6; n++) {
            if (can.contains(to)) return n;
            for (int p : new ArrayList<>(can)) {
                for (int r : roadsOf(p)) can.add(told.roads.get(r)[0] + told.roads.get(r)[1] - p);
            }
        }
        return 99;
    }

    public int meet(int cart, int place) {
        if (!isCart(cart) || !isPlace(place)) return -2;
        List<Integer> places = roaming(cart, 40);
        for (int t = 0; t <= 40; t++) if (hops(place, places.get(t)) <= t) return t;
        return NONE;
    }

    public int met(int cart, int place) {
        int t = meet(cart, place);
        return t < 0 ? t : roaming(cart, 40).get(t);
    }

    // ------------------------------------------------------------ fits

    private int why;

    private TreeSet<Integer> fitting(int slot) {
        why = 0;
        if (slot < 0 || slot > 3 || !isLand()) why = -2;
        else if (rows[slot] == null) why = -6;
        else if (rows[slot].length % 2 == 1) why = -2;
        if (why != 0) return null;
        Sim s = now();
        TreeSet<Integer> fit = new TreeSet<>();
        for (int w = 0; w < s.rim.length; w++) fit.add(w);
        for (int i = 0; i < rows[slot].length; i += 2) {
            long p = rows[slot][i];
            long r = rows[slot][i + 1];
            if (!isPlace(p) || !isRoad(r) || !roadsOf((int) p).contains((int) r)) {
                why = -2;
                return null;
            }
            fit.removeIf(w -> s.alone(w, (int) p) != r);
        }
        return fit;
    }

    public int fits(int slot) {
        TreeSet<Integer> fit = fitting(slot);
        return fit == null ? why : bits(fit);
    }

    private int[] asking(TreeSet<Integer> fit) {
        Sim s = now();
        int[] best = {NONE, fit.size()};
        for (int p = 0; p < told.places; p++) {
            Map<Integer, Integer> groups = new TreeMap<>();
            for (int w : fit) groups.merge(s.alone(w, p), 1, Integer::sum);
            int worst = groups.values().stream().mapToInt(i -> i).max().orElse(0);
            if (worst < best[1]) best = new int[] {p, worst};
        }
        return best;
    }

    public int ask(int slot) {
        TreeSet<Integer> fit = fitting(slot);
        return fit == null ? why : asking(fit)[0];
    }

    public int leaves(int slot) {
        TreeSet<Integer> fit = fitting(slot);
        return fit == null ? why : asking(fit)[1];
    }

    public int votes(int place, int road) {
        if (!isPlace(place) || !roadsOf(place).contains(road)) return -2;
        int b = 0;
        for (int w = 0; w < told.rims.size(); w++) if (now().alone(w, place) == road) b |= 1 << w;
        return b;
    }

    public int loved(int road) {
        if (!isRoad(road)) return -2;
        int sum = 0;
        for (int[] like : now().like) sum += like[road];
        return sum;
    }

    public int dearest() {
        if (!isLand()) return -2;
        int best = NONE;
        for (int r = told.roads.size() - 1; r >= 0; r--) if (best == NONE || loved(r) >= loved(best)) best = r;
        return best;
    }

    public int agree(int wheel, int other) {
        if (!isWheel(wheel) || !isWheel(other)) return -2;
        Sim s = now();
        int n = 0;
        for (int p = 0; p < told.places; p++) {
            if (!roadsOf(p).isEmpty() && s.alone(wheel, p) == s.alone(other, p)) n++;
        }
        return n;
    }

    public int mate(int wheel) {
        if (!isWheel(wheel)) return -2;
        int best = NONE;
        for (int o = told.rims.size() - 1; o >= 0; o--) {
            if (o != wheel && (best == NONE || agree(wheel, o) >= agree(wheel, best))) best = o;
        }
        return best;
    }

    // ------------------------------------------------------------ teaching, grease

    public int teach(int wheel, int road) {
        if (!isWheel(wheel) || !isRoad(road)) return -2;
        for (int n = 0; n <= 60; n++) {
            Sim s = now();
            for (int i = 0; i < n; i++) s.runs(wheel, road);
            int[] r = told.roads.get(road);
            if (s.alone(wheel, r[0]) == road && s.alone(wheel, r[1]) == road) return n;
        }
        return NONE;
    }

    public int blind(int cart, int road) {
        int set = blinds(cart, road);
        return set < 0 ? set : Integer.bitCount(set);
    }

    public int blinds(int cart, int road) {
        Sim s = now();
        if (road == NONE || !wantable(s, cart, road)) return -2;
        for (int few = 0; few <= 4; few++) {
            for (int set = 0; set < 256; set++) {
                if (Integer.bitCount(set) != few || (set & ~bits(s.crew.get(cart))) != 0) continue;
                Sim t = s.twin();
                for (int w = 0; w < 8; w++) if ((set >> w & 1) != 0) Arrays.fill(t.like[w], 0);
                if (t.turn(t.crew.get(cart), t.at[cart], NONE, told.hand) == road) return set;
            }
        }
        return NONE;
    }

    public int lasts(int wheel, int miles) {
        if (!isWheel(wheel) || miles < 1 || miles > 20) return -2;
        int rim = now().rim[wheel];
        for (int n = 1;; n++) {
            rim -= miles;
            if (rim < 0) return n;
        }
    }

    public int share(int cart, int n, int wheel) {
        if (!isCart(cart) || n < 0 || n > 10000 || !isWheel(wheel)) return -2;
        Sim s = now();
        if (!s.crew.get(cart).contains(wheel)) return -2;
        Map<Integer, Integer> weight = new TreeMap<>();
        for (int w : s.crew.get(cart)) weight.put(w, s.all(w));
        int all = weight.values().stream().mapToInt(i -> i).sum();
        if (all == 0) {
            weight.replaceAll((w, x) -> 1);
            all = weight.size();
        }
        int left = n;
        Map<Integer, Integer> gets = new TreeMap<>();
        for (int w : weight.keySet()) {
            gets.put(w, n * weight.get(w) / all);
            left -= gets.get(w);
        }
        for (int w : gets.keySet()) {
            if (left > 0) {
                gets.merge(w, 1, Integer::sum);
                left--;
            }
        }
        return gets.get(wheel);
    }

    public int worth(int wheel) {
        return isWheel(wheel) ? now().worth(wheel) : -2;
    }

    /** What the one whose turn it is counts less what the other one does, and his first pick. */
    private int[] play(Sim s, List<Integer> left, boolean first) {
        int[] best = {0, NONE};
        for (int w : left) {
            List<Integer> rest = new ArrayList<>(left);
            rest.remove((Integer) w);
            int gain = (first ? s.worth(w) : s.rim[w]) - play(s, rest, !first)[0];
            if (best[1] == NONE || gain > best[0]) best = new int[] {gain, w};
        }
        return best;
    }

    public int smiths() {
        return isLand() ? play(now(), now().free(), true)[0] : -2000000;
    }

    public int picks() {
        return isLand() ? play(now(), now().free(), true)[1] : -2;
    }

    // ------------------------------------------------------------ draws

    private int[] draws(long seed, int cart, int n) {
        Sim s = now();
        int before = s.miles[cart];
        int astray = 0;
        java.math.BigInteger x = java.math.BigInteger.valueOf(seed);
        for (int i = 0; i < n; i++) {
            List<Integer> by = roadsOf(s.at[cart]);
            if (by.isEmpty()) break;
            x = x.multiply(java.math.BigInteger.valueOf(1103515245)).add(java.math.BigInteger.valueOf(12345))
                    .mod(java.math.BigInteger.TWO.pow(31));
            int wanted = by.get((int) (x.longValue() / 65536 % by.size()));
            if (s.drives(cart, wanted) != wanted) astray++;
        }
        return new int[] {s.at[cart], s.miles[cart] - before, astray};
    }

    public int drawn(int seed, int cart, int n, int what) {
        if (seed < 0 || seed > 2000000000 || !isCart(cart) || n < 0 || n > 40 || what < 0 || what > 2) return -2;
        return draws(seed, cart, n)[what];
    }

    public int luck(int seed, int m, int cart, int n, int place) {
        if (seed < 0 || seed > 2000000000 || m < 1 || m > 20 || !isCart(cart) || n < 0 || n > 40 || !isPlace(place)) return -2;
        int lucky = 0;
        for (int i = 0; i < m; i++) if (draws((long) seed + i, cart, n)[0] == place) lucky++;
        return lucky;
    }

    // ------------------------------------------------------------ told otherwise

    public int tell(int wheel, int road, int n) {
        if (!isWheel(wheel) || !isRoad(road) || n < 0 || n > 9) return -2;
        if (!acts.isEmpty()) return -5;
        int was = told.likes.get(wheel)[road];
        told.likes.get(wheel)[road] = n;
        return was;
    }

    public int hand(int n) {
        if (n < 0 || n > 40 || !isLand()) return -2;
        if (!acts.isEmpty()) return -5;
        int was = told.hand;
        told.hand = n;
        return was;
    }

    public int count(int what) {
        return switch (what) {
            case 0 -> told.places;
            case 1 -> told.roads.size();
            case 2 -> told.rims.size();
            case 3 -> told.cartPlaces.size();
            case 4 -> told.errands.size();
            case 5 -> told.hand;
            case 6 -> told.lines;
            case 7 -> tape.length();
            case 8 -> acts.size();
            case 9 -> (int) Arrays.stream(rows).filter(r -> r != null).count();
            default -> NONE;
        };
    }

    public int image(int k) {
        if (k < 0 || k > 2) return -2;
        imageTold[k] = told.twin();
        imageActs.set(k, new ArrayList<>(acts));
        return 0;
    }

    public int back(int k) {
        if (k < 0 || k > 2) return -2;
        if (imageTold[k] == null) return -6;
        told = imageTold[k].twin();
        acts = new ArrayList<>(imageActs.get(k));
        return 0;
    }

    // ------------------------------------------------------------ slots

    public int row(int slot, int width, int n) {
        if (slot < 0 || slot > 3 || width < 0 || width > 3 || n > 60) return -2;
        if (n < 0) return -3;
        rows[slot] = new long[n];
        widths[slot] = width;
        return 0;
    }

    public int write(int slot, int i, long v) {
        if (slot < 0 || slot > 3) return -2;
        if (rows[slot] == null) return -6;
        if (i < 0 || i >= rows[slot].length) return -7;
        int shift = 64 - (8 << widths[slot]);
        rows[slot][i] = v << shift >> shift;
        return 0;
    }

    public int paste(int slot, int i, int to, int k, int n) {
        if (slot < 0 || slot > 3 || to < 0 || to > 3) return -2;
        if (rows[slot] == null || rows[to] == null) return -6;
        if (widths[slot] != widths[to]) return -8;
        if (i < 0 || k < 0 || n < 0 || (long) i + n > rows[slot].length || (long) k + n > rows[to].length) return -7;
        long[] as = rows[slot].clone();
        for (int j = 0; j < n; j++) rows[to][k + j] = as[i + j];
        return 0;
    }
}
