import java.util.Arrays;

/**
 * Wheels remember roads: a land told as a text, and what its carts would do, learn and wear.
 * The words in capitals in the comments are the terms of the document.
 */
public final class WheelMemory {
    public static final int NONE = -1;

    private static final int NO_SUCH = -2;
    private static final int BELOW_NOTHING = -3;
    private static final int FAULTY = -4;
    private static final int NOT_NOW = -5;
    private static final int HAS_NOTHING = -6;
    private static final int BEYOND = -7;
    private static final int UNLIKE_WIDTHS = -8;
    private static final int NO_SMITHS = -2000000;

    private static final int MOST_PLACES = 6;
    private static final int MOST_ROADS = 8;
    private static final int MOST_WHEELS = 8;
    private static final int MOST_CARTS = 3;
    private static final int MOST_ERRANDS = 6;
    private static final int MOST_SEATS = 4;
    private static final int MOST_HAND = 40;
    private static final int MOST_LIKED = 9;
    private static final int MOST_MILES = 20;
    private static final int MOST_ACTS = 40;
    private static final int MOST_WANTED = 4;
    private static final int MOST_TIMES = 40;
    private static final int MOST_LESSONS = 60;
    private static final int MOST_DEBT = 10000;
    private static final int MOST_SEED = 2000000000;
    private static final int MOST_SEEDS = 20;
    private static final int IMAGES = 3;
    private static final int WHEEL_SETS = 256;

    private final Tape tape;
    private final Reader reader;
    private final World world;
    private final World[] images;
    private final boolean[] kept;
    private final Slots slots;
    private final State trial;
    private final Trip trip;
    private final Search search;
    private final Game game;
    private final int[] tally;

    public WheelMemory() {
        reader = new Reader();
        tape = reader.tape;
        world = new World();
        images = new World[IMAGES];
        for (int k = 0; k < IMAGES; k++) {
            images[k] = new World();
        }
        kept = new boolean[IMAGES];
        slots = new Slots();
        trial = new State();
        trip = new Trip();
        search = new Search();
        game = new Game();
        tally = new int[MOST_ROADS];
    }

    // ---------------------------------------------------------------- the TAPE and the LAND

    public int feed(int a, int b, int c, int d, int e) {
        if (!tape.hasRoom()) {
            return NONE;
        }
        tape.append(a);
        tape.append(b);
        tape.append(c);
        tape.append(d);
        tape.append(e);
        return tape.length;
    }

    public int end(int n) {
        if (n < 0 || n > tape.length) {
            return NONE;
        }
        tape.length = n;
        return n;
    }

    public int land() {
        if (!reader.readAll()) {
            return FAULTY;
        }
        world.begin(reader.draft);
        tape.length = 0;
        return world.told.lines;
    }

    public int fault(int what) {
        if (what == 0) {
            return reader.fault;
        }
        return what == 1 ? reader.faultPlace : NONE;
    }

    public int road(int road, int what) {
        if (!world.told.isRoad(road)) {
            return NO_SUCH;
        }
        switch (what) {
            case 0:
                return world.told.roadFrom[road];
            case 1:
                return world.told.roadTo[road];
            case 2:
                return world.told.roadMiles[road];
            default:
                return NO_SUCH;
        }
    }

    public int likes(int wheel, int road) {
        if (!world.told.isWheel(wheel) || !world.told.isRoad(road)) {
            return NO_SUCH;
        }
        return world.now.likeOf(wheel, road);
    }

    public int wheel(int wheel, int what) {
        if (!world.told.isWheel(wheel)) {
            return NO_SUCH;
        }
        switch (what) {
            case 0:
                return world.now.rims[wheel];
            case 1:
                return world.now.seats[wheel];
            case 2:
                return world.now.likesAll(wheel);
            default:
                return NO_SUCH;
        }
    }

    public int cart(int cart, int what) {
        if (!world.told.isCart(cart)) {
            return NO_SUCH;
        }
        switch (what) {
            case 0:
                return world.now.stands[cart];
            case 1:
                return world.now.crewOf(cart);
            case 2:
                return world.now.driven[cart];
            default:
                return NO_SUCH;
        }
    }

    public int errand(int errand, int what) {
        if (!world.told.isErrand(errand)) {
            return NO_SUCH;
        }
        switch (what) {
            case 0:
                return world.told.errandCart[errand];
            case 1:
                return world.told.errandPlace[errand];
            case 2:
                return world.told.errandBy[errand];
            default:
                return NO_SUCH;
        }
    }

    public int roads(int place) {
        return world.told.isPlace(place) ? world.told.roadsAt(place) : NO_SUCH;
    }

    // ---------------------------------------------------------------- how a CART TURNS

    public int pull(int cart, int road) {
        if (!world.told.isCart(cart) || !world.told.isRoad(road)) {
            return NO_SUCH;
        }
        return world.now.pullOf(world.now.crewOf(cart), road);
    }

    public int takes(int cart, int road) {
        if (!canWant(cart, road)) {
            return NO_SUCH;
        }
        return world.now.turnOf(world.told, cart, road);
    }

    public int aside(int cart) {
        if (!world.told.isCart(cart)) {
            return NO_SUCH;
        }
        int bits = 0;
        for (int road = 0; road < world.told.roadCount; road++) {
            if (isByCart(cart, road) && world.now.turnOf(world.told, cart, road) != road) {
                bits |= 1 << road;
            }
        }
        return bits;
    }

    public int argue(int cart, int road) {
        if (!isByCart(cart, road)) {
            return NO_SUCH;
        }
        int crew = world.now.crewOf(cart);
        int favourite = world.now.favourite(world.told, crew, world.now.stands[cart]);
        for (int hand = 0; hand <= MOST_HAND; hand++) {
            if (world.now.yieldTo(crew, favourite, road, hand) == road) {
                return hand;
            }
        }
        return NONE;
    }

    private boolean isByCart(int cart, int road) {
        return world.told.isCart(cart) && world.told.touches(road, world.now.stands[cart]);
    }

    private boolean canWant(int cart, int road) {
        return world.told.isCart(cart) && (road == NONE || isByCart(cart, road));
    }

    // ---------------------------------------------------------------- acts

    public int drive(int cart, int road) {
        if (!canWant(cart, road)) {
            return NO_SUCH;
        }
        if (world.isFull() || world.told.roadsAt(world.now.stands[cart]) == 0) {
            return NOT_NOW;
        }
        world.act(World.DRIVE, cart, road);
        return world.now.stands[cart];
    }

    public int swap(int wheel, int other) {
        if (!world.told.isWheel(wheel) || !world.told.isWheel(other) || wheel == other) {
            return NO_SUCH;
        }
        if (world.isFull()) {
            return NOT_NOW;
        }
        world.act(World.SWAP, wheel, other);
        return 0;
    }

    public int grease(int wheel) {
        if (!world.told.isWheel(wheel)) {
            return NO_SUCH;
        }
        if (world.isFull()) {
            return NOT_NOW;
        }
        int liked = world.now.likesAll(wheel);
        world.act(World.GREASE, wheel, NONE);
        return liked;
    }

    public int undo() {
        if (!world.told.isTold()) {
            return NO_SUCH;
        }
        if (world.acts <= 0) {
            return NOT_NOW;
        }
        world.keepActs(world.acts - 1);
        return world.acts;
    }

    public int anew() {
        if (!world.told.isTold()) {
            return NO_SUCH;
        }
        int acts = world.acts;
        world.keepActs(0);
        return acts;
    }

    // ---------------------------------------------------------------- rows of ROADS wanted

    public int goes(int slot, int cart) {
        int refusal = follow(slot, cart);
        return refusal != 0 ? refusal : trip.drives;
    }

    public int ends(int slot, int cart) {
        int refusal = follow(slot, cart);
        return refusal != 0 ? refusal : trip.place;
    }

    public int ran(int slot, int cart) {
        int refusal = follow(slot, cart);
        return refusal != 0 ? refusal : trip.miles;
    }

    public int astray(int slot, int cart) {
        int refusal = follow(slot, cart);
        return refusal != 0 ? refusal : trip.firstAstray;
    }

    public int worn(int slot, int cart) {
        int refusal = follow(slot, cart);
        return refusal != 0 ? refusal : trip.firstWorn;
    }

    /** The trip then tells what the SLOT's row comes to; 0, or why it can't be asked. */
    private int follow(int slot, int cart) {
        if (!slots.isSlot(slot) || !world.told.isCart(cart)) {
            return NO_SUCH;
        }
        if (!slots.hasRow(slot)) {
            return HAS_NOTHING;
        }
        int length = slots.lengths[slot];
        for (int i = 0; i < length; i++) {
            long number = slots.rows[slot][i];
            if (number < NONE || number >= world.told.roadCount) {
                return NO_SUCH;
            }
        }
        trial.copy(world.now);
        trip.begin(trial, cart);
        boolean going = true;
        for (int i = 0; i < length && going; i++) {
            going = trip.goOn(world.told, trial, cart, (int) slots.rows[slot][i]);
        }
        return 0;
    }

    // ---------------------------------------------------------------- WAYS

    public int way(int cart, int place) {
        if (!world.told.isCart(cart) || !world.told.isPlace(place)) {
            return NO_SUCH;
        }
        return leastMiles(cart, place);
    }

    public int wants(int cart, int place, int i) {
        if (!world.told.isCart(cart) || !world.told.isPlace(place)) {
            return NO_SUCH;
        }
        if (leastMiles(cart, place) == NONE || i < 0 || i >= search.bestLength) {
            return NONE;
        }
        return search.bestRow[i];
    }

    public int reach(int cart) {
        if (!world.told.isCart(cart)) {
            return NO_SUCH;
        }
        int bits = 0;
        for (int place = 0; place < world.told.places; place++) {
            if (leastMiles(cart, place) != NONE) {
                bits |= 1 << place;
            }
        }
        return bits;
    }

    public int far(int place, int other) {
        if (!world.told.isPlace(place) || !world.told.isPlace(other)) {
            return NO_SUCH;
        }
        search.aim(world.told, NONE, other);
        return search.milesLeft[place] < Search.TOO_FAR ? search.milesLeft[place] : NONE;
    }

    public int dues() {
        if (!world.told.isTold()) {
            return NO_SUCH;
        }
        int bits = 0;
        for (int errand = 0; errand < world.told.errandCount; errand++) {
            int miles = leastMiles(world.told.errandCart[errand], world.told.errandPlace[errand]);
            if (miles != NONE && miles <= world.told.errandBy[errand]) {
                bits |= 1 << errand;
            }
        }
        return bits;
    }

    public int choose(int cart, int place) {
        if (!world.told.isCart(cart) || !world.told.isPlace(place)) {
            return NO_SUCH;
        }
        chooseWheels(cart, place);
        return search.miles();
    }

    public int chosen(int cart, int place) {
        if (!world.told.isCart(cart) || !world.told.isPlace(place)) {
            return NO_SUCH;
        }
        return chooseWheels(cart, place);
    }

    private int leastMiles(int cart, int place) {
        search.aim(world.told, cart, place);
        search.from().copy(world.now);
        search.look(world.told);
        return search.miles();
    }

    /** The least set of WHEELS by which the WAY has the least miles, which the search then has. */
    private int chooseWheels(int cart, int place) {
        int own = world.now.crewOf(cart);
        int pool = own | freeWheels();
        int size = Integer.bitCount(own);
        int chosen = NONE;
        int least = Search.TOO_FAR;
        search.aim(world.told, cart, place);
        for (int set = 1; set < WHEEL_SETS; set++) {
            if ((set & ~pool) == 0 && Integer.bitCount(set) == size) {
                search.from().copy(world.now);
                search.from().seat(cart, set);
                search.look(world.told);
                if (search.leastMiles < least) {
                    least = search.leastMiles;
                    chosen = set;
                }
            }
        }
        return chosen;
    }

    private int freeWheels() {
        int bits = 0;
        for (int wheel = 0; wheel < world.told.wheelCount; wheel++) {
            if (world.now.seats[wheel] == NONE) {
                bits |= 1 << wheel;
            }
        }
        return bits;
    }

    // ---------------------------------------------------------------- how a CART ROAMS

    public int roams(int cart, int n) {
        if (!world.told.isCart(cart) || n < 0 || n > MOST_TIMES) {
            return NO_SUCH;
        }
        trial.copy(world.now);
        for (int time = 0; time < n; time++) {
            trial.go(world.told, cart, NONE);
        }
        return trial.stands[cart];
    }

    public int circle(int cart) {
        if (!world.told.isCart(cart)) {
            return NO_SUCH;
        }
        trial.copy(world.now);
        int seen = 1 << trial.stands[cart];
        for (int time = 1; time <= MOST_TIMES; time++) {
            if (trial.go(world.told, cart, NONE) == NONE) {
                return NONE;
            }
            int bit = 1 << trial.stands[cart];
            if ((seen & bit) != 0) {
                return time;
            }
            seen |= bit;
        }
        return NONE;
    }

    public int haunts(int cart) {
        if (!world.told.isCart(cart)) {
            return NO_SUCH;
        }
        Arrays.fill(tally, 0);
        trial.copy(world.now);
        tally[trial.stands[cart]]++;
        for (int time = 0; time < MOST_TIMES; time++) {
            trial.go(world.told, cart, NONE);
            tally[trial.stands[cart]]++;
        }
        int most = 0;
        for (int place = 1; place < world.told.places; place++) {
            if (tally[place] > tally[most]) {
                most = place;
            }
        }
        return most;
    }

    public int meet(int cart, int place) {
        if (!world.told.isCart(cart) || !world.told.isPlace(place)) {
            return NO_SUCH;
        }
        return meetIn(cart, place);
    }

    public int met(int cart, int place) {
        if (!world.told.isCart(cart) || !world.told.isPlace(place)) {
            return NO_SUCH;
        }
        return meetIn(cart, place) == NONE ? NONE : trial.stands[cart];
    }

    /** In how many times they meet; the trial then has the CART where that is. */
    private int meetIn(int cart, int place) {
        trial.copy(world.now);
        int spread = 1 << place;
        for (int time = 0; time <= MOST_TIMES; time++) {
            if ((spread >> trial.stands[cart] & 1) != 0) {
                return time;
            }
            spread = world.told.spreadOf(spread);
            trial.go(world.told, cart, NONE);
        }
        return NONE;
    }

    // ---------------------------------------------------------------- which WHEELS FIT

    public int fits(int slot) {
        return fitting(slot);
    }

    public int ask(int slot) {
        int wheels = fitting(slot);
        return wheels < 0 ? wheels : placeToAsk(wheels);
    }

    public int leaves(int slot) {
        int wheels = fitting(slot);
        if (wheels < 0) {
            return wheels;
        }
        int place = placeToAsk(wheels);
        return place == NONE ? Integer.bitCount(wheels) : worstAt(place, wheels);
    }

    public int votes(int place, int road) {
        if (!world.told.isPlace(place) || !world.told.touches(road, place)) {
            return NO_SUCH;
        }
        return votersOf(place, road);
    }

    /** The WHEELS that FIT all of a SLOT's row, as bits, or why that can't be asked. */
    private int fitting(int slot) {
        if (!slots.isSlot(slot) || !world.told.isTold()) {
            return NO_SUCH;
        }
        if (!slots.hasRow(slot)) {
            return HAS_NOTHING;
        }
        int length = slots.lengths[slot];
        if (length % 2 != 0) {
            return NO_SUCH;
        }
        int wheels = (1 << world.told.wheelCount) - 1;
        for (int i = 0; i + 1 < length; i += 2) {
            long place = slots.rows[slot][i];
            long road = slots.rows[slot][i + 1];
            if (place < 0 || place >= world.told.places || road < 0 || road >= world.told.roadCount
                    || !world.told.touches((int) road, (int) place)) {
                return NO_SUCH;
            }
            wheels &= votersOf((int) place, (int) road);
        }
        return wheels;
    }

    private int votersOf(int place, int road) {
        int bits = 0;
        for (int wheel = 0; wheel < world.told.wheelCount; wheel++) {
            if (world.now.alone(world.told, wheel, place) == road) {
                bits |= 1 << wheel;
            }
        }
        return bits;
    }

    private int placeToAsk(int wheels) {
        int asked = NONE;
        int fewest = Integer.bitCount(wheels);
        for (int place = 0; place < world.told.places; place++) {
            int worst = worstAt(place, wheels);
            if (worst < fewest) {
                fewest = worst;
                asked = place;
            }
        }
        return asked;
    }

    /** How many of these WHEELS are left if the answer, a ROAD or that there is none, is the worst. */
    private int worstAt(int place, int wheels) {
        if (world.told.roadsAt(place) == 0) {
            return Integer.bitCount(wheels);
        }
        Arrays.fill(tally, 0);
        int worst = 0;
        for (int wheel = 0; wheel < world.told.wheelCount; wheel++) {
            int road = world.now.alone(world.told, wheel, place);
            if ((wheels >> wheel & 1) != 0 && road != NONE) {
                tally[road]++;
                worst = Math.max(worst, tally[road]);
            }
        }
        return worst;
    }

    // ---------------------------------------------------------------- what WHEELS like

    public int loved(int road) {
        return world.told.isRoad(road) ? world.now.pullOf(WHEEL_SETS - 1, road) : NO_SUCH;
    }

    public int dearest() {
        if (!world.told.isTold()) {
            return NO_SUCH;
        }
        int dearest = NONE;
        int most = NONE;
        for (int road = 0; road < world.told.roadCount; road++) {
            int liked = world.now.pullOf(WHEEL_SETS - 1, road);
            if (liked > most) {
                most = liked;
                dearest = road;
            }
        }
        return dearest;
    }

    public int agree(int wheel, int other) {
        if (!world.told.isWheel(wheel) || !world.told.isWheel(other)) {
            return NO_SUCH;
        }
        return agreements(wheel, other);
    }

    public int mate(int wheel) {
        if (!world.told.isWheel(wheel)) {
            return NO_SUCH;
        }
        int mate = NONE;
        int most = NONE;
        for (int other = 0; other < world.told.wheelCount; other++) {
            if (other != wheel) {
                int agreed = agreements(wheel, other);
                if (agreed > most) {
                    most = agreed;
                    mate = other;
                }
            }
        }
        return mate;
    }

    private int agreements(int wheel, int other) {
        int agreed = 0;
        for (int place = 0; place < world.told.places; place++) {
            int road = world.now.alone(world.told, wheel, place);
            if (road != NONE && world.now.alone(world.told, other, place) == road) {
                agreed++;
            }
        }
        return agreed;
    }

    // ---------------------------------------------------------------- teaching, grease, wear

    public int teach(int wheel, int road) {
        if (!world.told.isWheel(wheel) || !world.told.isRoad(road)) {
            return NO_SUCH;
        }
        trial.copy(world.now);
        for (int lessons = 0; lessons <= MOST_LESSONS; lessons++) {
            if (trial.alone(world.told, wheel, world.told.roadFrom[road]) == road
                    && trial.alone(world.told, wheel, world.told.roadTo[road]) == road) {
                return lessons;
            }
            trial.run(wheel, road, world.told.roadMiles[road]);
        }
        return NONE;
    }

    public int blind(int cart, int road) {
        if (!isByCart(cart, road)) {
            return NO_SUCH;
        }
        int set = greasedSet(cart, road);
        return set == NONE ? NONE : Integer.bitCount(set);
    }

    public int blinds(int cart, int road) {
        return isByCart(cart, road) ? greasedSet(cart, road) : NO_SUCH;
    }

    private int greasedSet(int cart, int road) {
        int crew = world.now.crewOf(cart);
        int place = world.now.stands[cart];
        int best = NONE;
        int fewest = MOST_WHEELS + 1;
        for (int set = 0; set < WHEEL_SETS; set++) {
            if ((set & ~crew) == 0 && Integer.bitCount(set) < fewest
                    && world.now.favourite(world.told, crew & ~set, place) == road) {
                fewest = Integer.bitCount(set);
                best = set;
            }
        }
        return best;
    }

    public int lasts(int wheel, int miles) {
        if (!world.told.isWheel(wheel) || miles < 1 || miles > MOST_MILES) {
            return NO_SUCH;
        }
        return world.now.rims[wheel] / miles + 1;
    }

    // ---------------------------------------------------------------- SHARE, WORTH, SMITHS

    public int share(int cart, int n, int wheel) {
        if (!world.told.isCart(cart) || n < 0 || n > MOST_DEBT || !world.told.isWheel(wheel)
                || world.now.seats[wheel] != cart) {
            return NO_SUCH;
        }
        int crew = world.now.crewOf(cart);
        int all = 0;
        for (int one = 0; one < MOST_WHEELS; one++) {
            all += (crew >> one & 1) * world.now.likesAll(one);
        }
        int left = n;
        int ahead = 0;
        for (int one = 0; one < MOST_WHEELS; one++) {
            if ((crew >> one & 1) != 0) {
                left -= cutShare(n, one, all, crew);
                ahead += one < wheel ? 1 : 0;
            }
        }
        return cutShare(n, wheel, all, crew) + (ahead < left ? 1 : 0);
    }

    private int cutShare(int n, int wheel, int all, int crew) {
        if (all > 0) {
            return n * world.now.likesAll(wheel) / all;
        }
        return n / Math.max(1, Integer.bitCount(crew));
    }

    public int worth(int wheel) {
        return world.told.isWheel(wheel) ? world.now.worthOf(world.told, wheel) : NO_SUCH;
    }

    public int smiths() {
        if (!world.told.isTold()) {
            return NO_SMITHS;
        }
        return game.outcome(world.told, world.now, freeWheels());
    }

    public int picks() {
        if (!world.told.isTold()) {
            return NO_SUCH;
        }
        return game.firstPick(world.told, world.now, freeWheels());
    }

    // ---------------------------------------------------------------- drives drawn

    public int drawn(int seed, int cart, int n, int what) {
        if (!canDraw(seed, cart, n)) {
            return NO_SUCH;
        }
        drawDrives(seed, cart, n);
        switch (what) {
            case 0:
                return trip.place;
            case 1:
                return trip.miles;
            case 2:
                return trip.astrays;
            default:
                return NO_SUCH;
        }
    }

    public int luck(int seed, int m, int cart, int n, int place) {
        if (!canDraw(seed, cart, n) || m < 1 || m > MOST_SEEDS || !world.told.isPlace(place)) {
            return NO_SUCH;
        }
        int lucky = 0;
        for (int i = 0; i < m; i++) {
            drawDrives(seed + i, cart, n);
            if (trip.place == place) {
                lucky++;
            }
        }
        return lucky;
    }

    private boolean canDraw(int seed, int cart, int n) {
        return seed >= 0 && seed <= MOST_SEED && world.told.isCart(cart) && n >= 0 && n <= MOST_TIMES;
    }

    /** The trip then tells what n drives drawn come to. */
    private void drawDrives(int seed, int cart, int n) {
        trial.copy(world.now);
        trip.begin(trial, cart);
        long x = seed;
        boolean going = true;
        for (int i = 0; i < n && going; i++) {
            int here = world.told.roadsAt(trial.stands[cart]);
            going = here != 0;
            if (going) {
                x = (1103515245L * x + 12345L) % 2147483648L;
                int draw = (int) (x / 65536L % Math.max(1, Integer.bitCount(here)));
                trip.goOn(world.told, trial, cart, nthBit(here, draw));
            }
        }
    }

    private static int nthBit(int bits, int n) {
        int left = n;
        for (int i = 0; i < MOST_ROADS; i++) {
            if ((bits >> i & 1) != 0) {
                if (left == 0) {
                    return i;
                }
                left--;
            }
        }
        return NONE;
    }

    // ---------------------------------------------------------------- the LAND told otherwise

    public int tell(int wheel, int road, int n) {
        if (!world.told.isWheel(wheel) || !world.told.isRoad(road) || n < 0 || n > MOST_LIKED) {
            return NO_SUCH;
        }
        if (world.acts > 0) {
            return NOT_NOW;
        }
        int was = world.told.first.likeOf(wheel, road);
        world.told.first.setLike(wheel, road, n);
        world.now.setLike(wheel, road, n);
        return was;
    }

    public int hand(int n) {
        if (n < 0 || n > MOST_HAND || !world.told.isTold()) {
            return NO_SUCH;
        }
        if (world.acts > 0) {
            return NOT_NOW;
        }
        int was = world.told.handed;
        world.told.handed = n;
        return was;
    }

    public int count(int what) {
        switch (what) {
            case 0:
                return world.told.places;
            case 1:
                return world.told.roadCount;
            case 2:
                return world.told.wheelCount;
            case 3:
                return world.told.cartCount;
            case 4:
                return world.told.errandCount;
            case 5:
                return world.told.handed;
            case 6:
                return world.told.lines;
            case 7:
                return tape.length;
            case 8:
                return world.acts;
            case 9:
                return slots.rowCount();
            default:
                return NONE;
        }
    }

    // ---------------------------------------------------------------- IMAGES

    public int image(int k) {
        if (k < 0 || k >= IMAGES) {
            return NO_SUCH;
        }
        images[k].copy(world);
        kept[k] = true;
        return 0;
    }

    public int back(int k) {
        if (k < 0 || k >= IMAGES) {
            return NO_SUCH;
        }
        if (!kept[k]) {
            return HAS_NOTHING;
        }
        world.copy(images[k]);
        return 0;
    }

    // ---------------------------------------------------------------- SLOTS

    public int row(int slot, int width, int n) {
        if (!slots.isSlot(slot) || !Slots.isWidth(width) || n > Slots.MOST) {
            return NO_SUCH;
        }
        if (n < 0) {
            return BELOW_NOTHING;
        }
        slots.begin(slot, width, n);
        return 0;
    }

    public int write(int slot, int i, long v) {
        if (!slots.isSlot(slot)) {
            return NO_SUCH;
        }
        if (!slots.hasRow(slot)) {
            return HAS_NOTHING;
        }
        if (i < 0 || i >= slots.lengths[slot]) {
            return BEYOND;
        }
        slots.put(slot, i, v);
        return 0;
    }

    public int paste(int slot, int i, int to, int k, int n) {
        if (!slots.isSlot(slot) || !slots.isSlot(to)) {
            return NO_SUCH;
        }
        if (!slots.hasRow(slot) || !slots.hasRow(to)) {
            return HAS_NOTHING;
        }
        if (slots.widths[slot] != slots.widths[to]) {
            return UNLIKE_WIDTHS;
        }
        if (!slots.holds(slot, i, n) || !slots.holds(to, k, n)) {
            return BEYOND;
        }
        System.arraycopy(slots.rows[slot], i, slots.rows[to], k, n);
        return 0;
    }

    // ---------------------------------------------------------------- classes of its own

    /** The bytes that were fed and are no LAND yet. */
    private static final class Tape {
        static final int MOST = 1000;
        private static final int FED_AT_ONCE = 20;

        private final byte[] bytes = new byte[MOST];
        int length;

        boolean hasRoom() {
            return length + FED_AT_ONCE <= MOST;
        }

        void append(int four) {
            for (int shift = 24; shift >= 0; shift -= 8) {
                if (length < MOST) {
                    bytes[length] = (byte) (four >> shift);
                    length++;
                }
            }
        }

        /** Byte i, 0 .. 255; NONE behind the end. */
        int byteAt(int i) {
            return i >= 0 && i < length ? bytes[i] & 255 : NONE;
        }
    }

    /** Reads the TAPE into a draft, up to the first FAULT. */
    private static final class Reader {
        private static final int AT_END = 0;
        private static final int WORD = 1;
        private static final int NUMBER = 2;
        private static final int STOP = 3;
        private static final int NO_TOKEN = 4;

        private static final int MISPLACED = 1;
        private static final int OUT_OF_BOUNDS = 2;
        private static final int TOO_MANY = 3;

        private static final int MOST_RIM = 999;
        private static final int MOST_BY = 200;
        /** Above every bound: a longer number stays there, so that it can't wrap around. */
        private static final int HUGE = 1000000;

        final Tape tape = new Tape();
        final Land draft = new Land();
        int fault;
        int faultPlace = NONE;
        private int kind;
        private int start;
        private int after;
        private int value;

        boolean readAll() {
            draft.clear();
            fault = 0;
            faultPlace = NONE;
            after = 0;
            next();
            for (int i = 0; i < Tape.MOST && fault == 0 && kind != AT_END; i++) {
                readLine();
            }
            return fault == 0;
        }

        private void readLine() {
            if (draft.lines == 0) {
                readLand();
            } else if (isWord("road")) {
                readRoad();
            } else if (isWord("wheel")) {
                readWheel();
            } else if (isWord("cart")) {
                readCart();
            } else if (isWord("errand")) {
                readErrand();
            } else {
                fail(MISPLACED);
            }
            if (fault == 0 && kind != STOP) {
                fail(MISPLACED);
            }
            if (fault == 0) {
                draft.lines++;
                next();
            }
        }

        private void readLand() {
            passWord("land");
            passWord("places");
            int places = passNumber(2, MOST_PLACES);
            passWord("hand");
            int hand = passNumber(0, MOST_HAND);
            if (fault == 0) {
                draft.places = places;
                draft.handed = hand;
            }
        }

        private void readRoad() {
            if (draft.roadCount >= MOST_ROADS) {
                fail(TOO_MANY);
            }
            passWord("road");
            int from = passNumber(0, draft.places - 1);
            passWord("to");
            if (kind == NUMBER && value == from) {
                fail(OUT_OF_BOUNDS);
            }
            int to = passNumber(0, draft.places - 1);
            passWord("miles");
            int miles = passNumber(1, MOST_MILES);
            if (fault == 0) {
                draft.addRoad(from, to, miles);
            }
        }

        private void readWheel() {
            if (draft.wheelCount >= MOST_WHEELS) {
                fail(TOO_MANY);
            }
            passWord("wheel");
            passWord("rim");
            int rim = passNumber(0, MOST_RIM);
            if (fault == 0) {
                draft.addWheel(rim);
            }
            for (int i = 0; i < Tape.MOST && fault == 0 && isWord("likes"); i++) {
                next();
                int road = passNumber(0, draft.roadCount - 1);
                int by = passNumber(0, MOST_LIKED);
                if (fault == 0) {
                    draft.first.setLike(draft.wheelCount - 1, road, by);
                }
            }
        }

        private void readCart() {
            if (draft.cartCount >= MOST_CARTS) {
                fail(TOO_MANY);
            }
            passWord("cart");
            passWord("at");
            int place = passNumber(0, draft.places - 1);
            passWord("wheels");
            if (kind != NUMBER) {
                fail(MISPLACED);
            }
            if (fault == 0) {
                draft.addCart(place);
            }
            for (int i = 0; i < Tape.MOST && fault == 0 && kind == NUMBER; i++) {
                readSeat(i);
            }
        }

        private void readSeat(int ahead) {
            if (!draft.isWheel(value)) {
                fail(OUT_OF_BOUNDS);
            } else if (ahead >= MOST_SEATS) {
                fail(TOO_MANY);
            } else if (draft.first.seats[value] != NONE) {
                fail(OUT_OF_BOUNDS);
            } else {
                draft.first.seats[value] = draft.cartCount - 1;
                next();
            }
        }

        private void readErrand() {
            if (draft.errandCount >= MOST_ERRANDS) {
                fail(TOO_MANY);
            }
            passWord("errand");
            int cart = passNumber(0, draft.cartCount - 1);
            passWord("to");
            int place = passNumber(0, draft.places - 1);
            passWord("by");
            int by = passNumber(1, MOST_BY);
            if (fault == 0) {
                draft.addErrand(cart, place, by);
            }
        }

        /** Only the first FAULT counts, and it is where the TOKEN at hand begins. */
        private void fail(int what) {
            if (fault == 0) {
                fault = what;
                faultPlace = start;
            }
        }

        private void passWord(String word) {
            if (!isWord(word)) {
                fail(MISPLACED);
            }
            if (fault == 0) {
                next();
            }
        }

        private int passNumber(int least, int most) {
            int number = value;
            if (kind != NUMBER) {
                fail(MISPLACED);
            } else if (number < least || number > most) {
                fail(OUT_OF_BOUNDS);
            }
            if (fault == 0) {
                next();
            }
            return number;
        }

        private boolean isWord(String word) {
            if (kind != WORD || after - start != word.length()) {
                return false;
            }
            for (int i = 0; i < word.length(); i++) {
                if (tape.byteAt(start + i) != word.charAt(i)) {
                    return false;
                }
            }
            return true;
        }

        private void next() {
            start = after;
            for (int i = 0; i < Tape.MOST && isBlank(tape.byteAt(start)); i++) {
                start++;
            }
            int sign = tape.byteAt(start);
            after = start;
            value = 0;
            if (sign == NONE) {
                kind = AT_END;
            } else if (isLetter(sign)) {
                kind = WORD;
                passLetters();
            } else if (isDigit(sign)) {
                kind = NUMBER;
                passDigits();
            } else {
                kind = sign == ';' ? STOP : NO_TOKEN;
                after++;
            }
        }

        private void passLetters() {
            for (int i = 0; i < Tape.MOST && isLetter(tape.byteAt(after)); i++) {
                after++;
            }
        }

        private void passDigits() {
            for (int i = 0; i < Tape.MOST && isDigit(tape.byteAt(after)); i++) {
                value = Math.min(HUGE, value * 10 + tape.byteAt(after) - '0');
                after++;
            }
        }

        private static boolean isBlank(int sign) {
            return sign == 32 || sign == 10;
        }

        private static boolean isLetter(int sign) {
            return sign >= 'a' && sign <= 'z';
        }

        private static boolean isDigit(int sign) {
            return sign >= '0' && sign <= '9';
        }
    }

    /** A LAND as it is told, with the state in which it begins; without LINES there is none. */
    private static final class Land {
        int lines;
        int places;
        int handed;
        int roadCount;
        int wheelCount;
        int cartCount;
        int errandCount;
        final int[] roadFrom = new int[MOST_ROADS];
        final int[] roadTo = new int[MOST_ROADS];
        final int[] roadMiles = new int[MOST_ROADS];
        final int[] errandCart = new int[MOST_ERRANDS];
        final int[] errandPlace = new int[MOST_ERRANDS];
        final int[] errandBy = new int[MOST_ERRANDS];
        final State first = new State();

        void clear() {
            lines = 0;
            places = 0;
            handed = 0;
            roadCount = 0;
            wheelCount = 0;
            cartCount = 0;
            errandCount = 0;
            first.clear();
        }

        void copy(Land other) {
            lines = other.lines;
            places = other.places;
            handed = other.handed;
            roadCount = other.roadCount;
            wheelCount = other.wheelCount;
            cartCount = other.cartCount;
            errandCount = other.errandCount;
            System.arraycopy(other.roadFrom, 0, roadFrom, 0, MOST_ROADS);
            System.arraycopy(other.roadTo, 0, roadTo, 0, MOST_ROADS);
            System.arraycopy(other.roadMiles, 0, roadMiles, 0, MOST_ROADS);
            System.arraycopy(other.errandCart, 0, errandCart, 0, MOST_ERRANDS);
            System.arraycopy(other.errandPlace, 0, errandPlace, 0, MOST_ERRANDS);
            System.arraycopy(other.errandBy, 0, errandBy, 0, MOST_ERRANDS);
            first.copy(other.first);
        }

        void addRoad(int from, int to, int miles) {
            if (roadCount < MOST_ROADS) {
                roadFrom[roadCount] = from;
                roadTo[roadCount] = to;
                roadMiles[roadCount] = miles;
                roadCount++;
            }
        }

        void addWheel(int rim) {
            if (wheelCount < MOST_WHEELS) {
                first.rims[wheelCount] = rim;
                wheelCount++;
            }
        }

        void addCart(int place) {
            if (cartCount < MOST_CARTS) {
                first.stands[cartCount] = place;
                cartCount++;
            }
        }

        void addErrand(int cart, int place, int by) {
            if (errandCount < MOST_ERRANDS) {
                errandCart[errandCount] = cart;
                errandPlace[errandCount] = place;
                errandBy[errandCount] = by;
                errandCount++;
            }
        }

        boolean isTold() {
            return lines > 0;
        }

        boolean isPlace(int place) {
            return place >= 0 && place < places;
        }

        boolean isRoad(int road) {
            return road >= 0 && road < roadCount;
        }

        boolean isWheel(int wheel) {
            return wheel >= 0 && wheel < wheelCount;
        }

        boolean isCart(int cart) {
            return cart >= 0 && cart < cartCount;
        }

        boolean isErrand(int errand) {
            return errand >= 0 && errand < errandCount;
        }

        /** Whether it is a ROAD of that PLACE. */
        boolean touches(int road, int place) {
            return road >= 0 && road < roadCount && (roadFrom[road] == place || roadTo[road] == place);
        }

        int otherEnd(int road, int place) {
            return roadFrom[road] == place ? roadTo[road] : roadFrom[road];
        }

        int roadsAt(int place) {
            int bits = 0;
            for (int road = 0; road < roadCount; road++) {
                if (touches(road, place)) {
                    bits |= 1 << road;
                }
            }
            return bits;
        }

        /** These PLACES, as bits, and those that are one ROAD away. */
        int spreadOf(int bits) {
            int spread = bits;
            for (int road = 0; road < roadCount; road++) {
                if ((bits >> roadFrom[road] & 1) != 0) {
                    spread |= 1 << roadTo[road];
                }
                if ((bits >> roadTo[road] & 1) != 0) {
                    spread |= 1 << roadFrom[road];
                }
            }
            return spread;
        }
    }

    /** What acts change: what WHEELS like, their rims and seats, where CARTS are and their miles. */
    private static final class State {
        private final int[] liked = new int[MOST_WHEELS * MOST_ROADS];
        final int[] rims = new int[MOST_WHEELS];
        final int[] seats = new int[MOST_WHEELS];
        final int[] stands = new int[MOST_CARTS];
        final int[] driven = new int[MOST_CARTS];

        State() {
            Arrays.fill(seats, NONE);
        }

        void clear() {
            Arrays.fill(liked, 0);
            Arrays.fill(rims, 0);
            Arrays.fill(seats, NONE);
            Arrays.fill(stands, 0);
            Arrays.fill(driven, 0);
        }

        void copy(State other) {
            System.arraycopy(other.liked, 0, liked, 0, liked.length);
            System.arraycopy(other.rims, 0, rims, 0, MOST_WHEELS);
            System.arraycopy(other.seats, 0, seats, 0, MOST_WHEELS);
            System.arraycopy(other.stands, 0, stands, 0, MOST_CARTS);
            System.arraycopy(other.driven, 0, driven, 0, MOST_CARTS);
        }

        int likeOf(int wheel, int road) {
            return liked[wheel * MOST_ROADS + road];
        }

        void setLike(int wheel, int road, int by) {
            liked[wheel * MOST_ROADS + road] = by;
        }

        int likesAll(int wheel) {
            int all = 0;
            for (int road = 0; road < MOST_ROADS; road++) {
                all += liked[wheel * MOST_ROADS + road];
            }
            return all;
        }

        void likeNothing(int wheel) {
            for (int road = 0; road < MOST_ROADS; road++) {
                liked[wheel * MOST_ROADS + road] = 0;
            }
        }

        int worthOf(Land told, int wheel) {
            int worth = 0;
            for (int road = 0; road < told.roadCount; road++) {
                worth += likeOf(wheel, road) * told.roadMiles[road];
            }
            return worth;
        }

        int crewOf(int cart) {
            int bits = 0;
            for (int wheel = 0; wheel < MOST_WHEELS; wheel++) {
                if (seats[wheel] == cart) {
                    bits |= 1 << wheel;
                }
            }
            return bits;
        }

        /** The CART has these WHEELS, as bits, and no others. */
        void seat(int cart, int crew) {
            for (int wheel = 0; wheel < MOST_WHEELS; wheel++) {
                if ((crew >> wheel & 1) != 0) {
                    seats[wheel] = cart;
                } else if (seats[wheel] == cart) {
                    seats[wheel] = NONE;
                }
            }
        }

        int pullOf(int crew, int road) {
            int sum = 0;
            for (int wheel = 0; wheel < MOST_WHEELS; wheel++) {
                if ((crew >> wheel & 1) != 0) {
                    sum += liked[wheel * MOST_ROADS + road];
                }
            }
            return sum;
        }

        /** TURN of these WHEELS, none wanted. */
        int favourite(Land told, int crew, int place) {
            int best = NONE;
            int most = NONE;
            for (int road = 0; road < told.roadCount; road++) {
                if (told.touches(road, place)) {
                    int sum = pullOf(crew, road);
                    if (sum > most) {
                        most = sum;
                        best = road;
                    }
                }
            }
            return best;
        }

        int alone(Land told, int wheel, int place) {
            return favourite(told, 1 << wheel, place);
        }

        /** TURN of these WHEELS, by their favourite unless the hand outweighs it: a tie is the hand's. */
        int yieldTo(int crew, int favourite, int wanted, int hand) {
            if (wanted == NONE || favourite == NONE) {
                return favourite;
            }
            return pullOf(crew, wanted) + hand >= pullOf(crew, favourite) ? wanted : favourite;
        }

        /** TURN of a CART where it is. */
        int turnOf(Land told, int cart, int wanted) {
            int crew = crewOf(cart);
            return yieldTo(crew, favourite(told, crew, stands[cart]), wanted, told.handed);
        }

        /** A WHEEL runs a ROAD. */
        void run(int wheel, int road, int miles) {
            setLike(wheel, road, Math.min(MOST_LIKED, likeOf(wheel, road) + 1));
            rims[wheel] -= miles;
            if (rims[wheel] < 0) {
                rims[wheel] = 0;
                likeNothing(wheel);
            }
        }

        /** A CART DRIVES: the ROAD by which it went; NONE, and it stays, if that can't be. */
        int go(Land told, int cart, int wanted) {
            if (wanted != NONE && !told.touches(wanted, stands[cart])) {
                return NONE;
            }
            int road = turnOf(told, cart, wanted);
            if (road != NONE) {
                goBy(told, cart, road);
            }
            return road;
        }

        void goBy(Land told, int cart, int road) {
            int miles = told.roadMiles[road];
            for (int wheel = 0; wheel < MOST_WHEELS; wheel++) {
                if (seats[wheel] == cart) {
                    run(wheel, road, miles);
                }
            }
            stands[cart] = told.otherEnd(road, stands[cart]);
            driven[cart] += miles;
        }

        boolean hasWornWheel(int cart) {
            for (int wheel = 0; wheel < MOST_WHEELS; wheel++) {
                if (seats[wheel] == cart && rims[wheel] == 0) {
                    return true;
                }
            }
            return false;
        }
    }

    /** A LAND with its acts, and the state to which these led. */
    private static final class World {
        static final int DRIVE = 0;
        static final int SWAP = 1;
        static final int GREASE = 2;

        final Land told = new Land();
        final State now = new State();
        int acts;
        private final int[] kinds = new int[MOST_ACTS];
        private final int[] ones = new int[MOST_ACTS];
        private final int[] others = new int[MOST_ACTS];

        void begin(Land draft) {
            told.copy(draft);
            now.copy(draft.first);
            acts = 0;
        }

        void copy(World other) {
            told.copy(other.told);
            now.copy(other.now);
            acts = other.acts;
            System.arraycopy(other.kinds, 0, kinds, 0, MOST_ACTS);
            System.arraycopy(other.ones, 0, ones, 0, MOST_ACTS);
            System.arraycopy(other.others, 0, others, 0, MOST_ACTS);
        }

        boolean isFull() {
            return acts >= MOST_ACTS;
        }

        void act(int kind, int one, int other) {
            if (!isFull()) {
                kinds[acts] = kind;
                ones[acts] = one;
                others[acts] = other;
                acts++;
                perform(kind, one, other);
            }
        }

        /** A run and a wear can't be reckoned backwards, so what is kept is done once more. */
        void keepActs(int n) {
            acts = n;
            now.copy(told.first);
            for (int i = 0; i < n && i < MOST_ACTS; i++) {
                perform(kinds[i], ones[i], others[i]);
            }
        }

        private void perform(int kind, int one, int other) {
            if (kind == DRIVE) {
                now.go(told, one, other);
            } else if (kind == SWAP) {
                int seat = now.seats[one];
                now.seats[one] = now.seats[other];
                now.seats[other] = seat;
            } else {
                now.likeNothing(one);
            }
        }
    }

    /** What a row of drives comes to. */
    private static final class Trip {
        int drives;
        int place;
        int miles;
        int astrays;
        int firstAstray;
        int firstWorn;

        void begin(State state, int cart) {
            drives = 0;
            place = state.stands[cart];
            miles = 0;
            astrays = 0;
            firstAstray = NONE;
            firstWorn = NONE;
        }

        /** One drive more; false if it can't be. */
        boolean goOn(Land told, State state, int cart, int wanted) {
            int road = state.go(told, cart, wanted);
            if (road == NONE) {
                return false;
            }
            if (wanted != NONE && wanted != road) {
                astrays++;
                if (firstAstray == NONE) {
                    firstAstray = drives;
                }
            }
            if (firstWorn == NONE && state.hasWornWheel(cart)) {
                firstWorn = drives;
            }
            drives++;
            place = state.stands[cart];
            miles += told.roadMiles[road];
            return true;
        }
    }

    /** Looks for the WAY of a CART. */
    private static final class Search {
        static final int TOO_FAR = 1000000;

        private final State[] levels;
        final int[] milesLeft = new int[MOST_PLACES];
        private final int[] roadsLeft = new int[MOST_PLACES];
        private final int[] row = new int[MOST_WANTED];
        final int[] bestRow = new int[MOST_WANTED];
        int bestLength;
        int leastMiles;
        private int cart;
        private int target;
        private int crew;

        Search() {
            levels = new State[MOST_WANTED + 1];
            for (int i = 0; i <= MOST_WANTED; i++) {
                levels[i] = new State();
            }
        }

        /** Nothing is found yet; what is found in one look binds the next, till it aims again. */
        void aim(Land told, int cart, int target) {
            this.cart = cart;
            this.target = target;
            bestLength = 0;
            leastMiles = TOO_FAR;
            Arrays.fill(milesLeft, TOO_FAR);
            Arrays.fill(roadsLeft, TOO_FAR);
            if (target >= 0 && target < MOST_PLACES) {
                milesLeft[target] = 0;
                roadsLeft[target] = 0;
            }
            for (int round = 1; round < told.places; round++) {
                for (int road = 0; road < told.roadCount; road++) {
                    spread(told.roadFrom[road], told.roadTo[road], told.roadMiles[road]);
                    spread(told.roadTo[road], told.roadFrom[road], told.roadMiles[road]);
                }
            }
        }

        private void spread(int from, int to, int miles) {
            milesLeft[to] = Math.min(milesLeft[to], milesLeft[from] + miles);
            roadsLeft[to] = Math.min(roadsLeft[to], roadsLeft[from] + 1);
        }

        /** The state from which it looks, to be filled ahead of each look. */
        State from() {
            return levels[0];
        }

        void look(Land told) {
            crew = levels[0].crewOf(cart);
            lookFrom(told, 0, 0);
        }

        int miles() {
            return leastMiles < TOO_FAR ? leastMiles : NONE;
        }

        /**
         * ROADS are wanted in the order of their numbers, so of like rows the least is found first;
         * a ROAD wanted by which it goes as by a lesser one leads to nothing new.
         */
        private void lookFrom(Land told, int depth, int miles) {
            State here = levels[depth];
            int place = here.stands[cart];
            if (place == target) {
                keepIfBetter(depth, miles);
                return;
            }
            if (depth >= MOST_WANTED) {
                return;
            }
            int favourite = here.favourite(told, crew, place);
            int tried = 0;
            for (int wanted = 0; wanted < told.roadCount; wanted++) {
                if (told.touches(wanted, place)) {
                    int road = here.yieldTo(crew, favourite, wanted, told.handed);
                    if ((tried >> road & 1) == 0) {
                        tried |= 1 << road;
                        row[depth] = wanted;
                        lookBy(told, road, depth, miles);
                    }
                }
            }
        }

        /** Goes no further where even a CART that obeys would come too late. */
        private void lookBy(Land told, int road, int depth, int miles) {
            State here = levels[depth];
            int then = miles + told.roadMiles[road];
            int place = told.otherEnd(road, here.stands[cart]);
            if (then + milesLeft[place] <= leastMiles && depth + 1 + roadsLeft[place] <= MOST_WANTED) {
                levels[depth + 1].copy(here);
                levels[depth + 1].goBy(told, cart, road);
                lookFrom(told, depth + 1, then);
            }
        }

        private void keepIfBetter(int length, int miles) {
            if (miles < leastMiles || miles == leastMiles && length < bestLength) {
                leastMiles = miles;
                bestLength = length;
                System.arraycopy(row, 0, bestRow, 0, MOST_WANTED);
            }
        }
    }

    /** The SMITHS' game, from its end: what each set of WHEELS that are left is good for. */
    private static final class Game {
        private final int[] outcomes = new int[WHEEL_SETS];
        private final int[] worths = new int[MOST_WHEELS];
        private final int[] rims = new int[MOST_WHEELS];

        /** First's count less second's, in the end, if both pick as they want of these WHEELS. */
        int outcome(Land told, State now, int free) {
            for (int wheel = 0; wheel < told.wheelCount; wheel++) {
                worths[wheel] = now.worthOf(told, wheel);
                rims[wheel] = now.rims[wheel];
            }
            outcomes[0] = 0;
            for (int set = 1; set <= free && set < WHEEL_SETS; set++) {
                if ((set & ~free) == 0) {
                    boolean first = Integer.bitCount(free & ~set) % 2 == 0;
                    int wheel = bestPick(set, first);
                    outcomes[set] = wheel == NONE ? 0 : picked(set, wheel, first);
                }
            }
            return outcomes[free & WHEEL_SETS - 1];
        }

        int firstPick(Land told, State now, int free) {
            outcome(told, now, free);
            return bestPick(free, true);
        }

        private int bestPick(int set, boolean first) {
            int best = NONE;
            for (int wheel = 0; wheel < MOST_WHEELS; wheel++) {
                if ((set >> wheel & 1) != 0
                        && (best == NONE || isBetter(picked(set, wheel, first), picked(set, best, first), first))) {
                    best = wheel;
                }
            }
            return best;
        }

        private static boolean isBetter(int then, int other, boolean first) {
            return first ? then > other : then < other;
        }

        private int picked(int set, int wheel, boolean first) {
            int gain = first ? worths[wheel] : -rims[wheel];
            return gain + outcomes[set & ~(1 << wheel) & WHEEL_SETS - 1];
        }
    }

    /** Four rows of numbers, each of its own WIDTH. */
    private static final class Slots {
        static final int MOST = 60;
        private static final int SLOTS = 4;
        private static final int WIDTHS = 4;

        final int[] widths = new int[SLOTS];
        final int[] lengths = new int[SLOTS];
        final long[][] rows = new long[SLOTS][MOST];

        Slots() {
            Arrays.fill(widths, NONE);
        }

        boolean isSlot(int slot) {
            return slot >= 0 && slot < SLOTS;
        }

        static boolean isWidth(int width) {
            return width >= 0 && width < WIDTHS;
        }

        boolean hasRow(int slot) {
            return widths[slot] != NONE;
        }

        int rowCount() {
            int count = 0;
            for (int slot = 0; slot < SLOTS; slot++) {
                if (hasRow(slot)) {
                    count++;
                }
            }
            return count;
        }

        void begin(int slot, int width, int n) {
            widths[slot] = width;
            lengths[slot] = n;
            Arrays.fill(rows[slot], 0L);
        }

        void put(int slot, int i, long v) {
            rows[slot][i] = cut(widths[slot], v);
        }

        private static long cut(int width, long v) {
            switch (width) {
                case 0:
                    return (byte) v;
                case 1:
                    return (short) v;
                case 2:
                    return (int) v;
                default:
                    return v;
            }
        }

        /** Whether n numbers from i on are in its row. */
        boolean holds(int slot, int i, int n) {
            return i >= 0 && n >= 0 && (long) i + n <= lengths[slot];
        }
    }
}
