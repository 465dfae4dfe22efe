/**
 * Each promise of the document by answers that were worked out by hand: ordinary calls, the edges, wrong ones.
 * The number that due() is told is the promise's.
 */
public final class PromisesTest {
    private static int wrong = 0;

    /** Place 4 has no ROADS; cart 0 would rather go by road 2, whatever is wanted. */
    private static final String A = "land places 5 hand 3;\n"
            + "road 0 to 1 miles 4; road 1 to 2 miles 5; road 0 to 2 miles 7; road 2 to 3 miles 2;\n"
            + "wheel rim 100 likes 0 2 likes 2 5;\n"
            + "wheel rim 10 likes 0 1 likes 1 3 likes 2 4;\n"
            + "wheel rim 30 likes 3 6;\n"
            + "wheel rim 50 likes 1 2;\n"
            + "cart at 0 wheels 0 1; cart at 3 wheels 2;\n"
            + "errand 0 to 2 by 7; errand 0 to 3 by 8; errand 1 to 0 by 200;";

    /** Whatever is wanted is done. */
    private static final String C = "land places 3 hand 40; road 0 to 1 miles 1; road 0 to 2 miles 2;"
            + "wheel rim 500; cart at 0 wheels 0;";

    /** A cart that can't go. */
    private static final String LONELY = "land places 3 hand 5; road 0 to 1 miles 3; wheel rim 9 likes 0 4; cart at 2 wheels 0;"
            + "errand 0 to 2 by 1; errand 0 to 0 by 9;";

    private static void due(int promise, String call, long got, long want) {
        if (got != want) {
            wrong++;
            System.out.println("promise " + promise + ": " + call + " answered " + got + ", due is " + want);
        }
    }

    private static void say(WheelMemory x, String text) {
        int before = x.count(7);
        StringBuilder padded = new StringBuilder(text);
        while (padded.length() % 20 != 0) padded.append(' ');
        for (int i = 0; i < padded.length(); i += 20) {
            int[] n = new int[5];
            for (int j = 0; j < 20; j++) n[j / 4] = n[j / 4] << 8 | padded.charAt(i + j);
            x.feed(n[0], n[1], n[2], n[3], n[4]);
        }
        x.end(before + text.length());
    }

    private static WheelMemory of(String text) {
        WheelMemory x = new WheelMemory();
        say(x, text);
        int lines = x.land();
        if (lines < 0) {
            wrong++;
            System.out.println("fault " + x.fault(0) + " at " + x.fault(1) + " in " + text);
        }
        return x;
    }

    private static void row(WheelMemory x, int slot, int... numbers) {
        x.row(slot, 0, numbers.length);
        for (int i = 0; i < numbers.length; i++) x.write(slot, i, numbers[i]);
    }

    public static void main(String[] args) {
        newObject();
        tape();
        landAndFault();
        faults();
        whatThereIs();
        turns();
        acts();
        undoing();
        rowsWanted();
        wearOnTheWay();
        ways();
        waysOfLike();
        duesAndChoice();
        roaming();
        meeting();
        fitting();
        liking();
        teaching();
        greasing();
        sharing();
        smithing();
        drawing();
        telling();
        counting();
        images();
        slots();
        System.out.println(wrong == 0 ? "all promises hold" : wrong + " answers are not as due");
        if (wrong != 0) System.exit(1);
    }

    private static void newObject() {
        WheelMemory x = new WheelMemory();
        due(1, "NONE", WheelMemory.NONE, -1);
        for (int what = 0; what <= 9; what++) due(1, "count(" + what + ")", x.count(what), 0);
        due(1, "roads(0)", x.roads(0), -2);
        due(1, "cart(0, 0)", x.cart(0, 0), -2);
        due(1, "wheel(0, 0)", x.wheel(0, 0), -2);
        due(1, "takes(0, -1)", x.takes(0, -1), -2);
        due(19, "undo() without LAND", x.undo(), -2);
        due(20, "anew() without LAND", x.anew(), -2);
        due(30, "dues() without LAND", x.dues(), -2);
        due(43, "dearest() without LAND", x.dearest(), -2);
        due(52, "smiths() without LAND", x.smiths(), -2000000);
        due(53, "picks() without LAND", x.picks(), -2);
        due(57, "hand(3) without LAND", x.hand(3), -2);
        due(1, "goes(0, 0)", x.goes(0, 0), -2);
        due(1, "fits(0)", x.fits(0), -2);
        due(1, "write(0, 0, 0)", x.write(0, 0, 0L), -6);
        due(1, "back(0)", x.back(0), -6);
    }

    private static void tape() {
        WheelMemory x = new WheelMemory();
        due(2, "feed", x.feed(0x6c616e64, 0x20706c61, 0x63657320, 0x32206861, 0x6e642037), 20);
        due(2, "feed", x.feed(0x3b202020, 0x20202020, 0x20202020, 0x20202020, 0x20202020), 40);
        due(2, "count(7)", x.count(7), 40);
        due(2, "land()", x.land(), 1);
        due(2, "count(0)", x.count(0), 2);
        due(2, "count(5)", x.count(5), 7);
        for (int i = 1; i <= 50; i++) due(2, "feed", x.feed(0x20202020, 0x20202020, 0x20202020, 0x20202020, 0x20202020), 20 * i);
        due(2, "feed beyond 1,000", x.feed(0, 0, 0, 0, 0), -1);
        due(2, "count(7)", x.count(7), 1000);
        due(3, "end(1001)", x.end(1001), -1);
        due(3, "end(-1)", x.end(-1), -1);
        due(3, "count(7)", x.count(7), 1000);
        due(3, "end(1000)", x.end(1000), 1000);
        due(3, "end(981)", x.end(981), 981);
        due(2, "feed beyond 1,000", x.feed(0, 0, 0, 0, 0), -1);
        due(3, "end(980)", x.end(980), 980);
        due(3, "end(981)", x.end(981), -1);
        due(2, "feed up to 1,000", x.feed(-1, 0, 0, 0, 0), 1000);
        due(2, "land()", x.land(), -4);
        due(2, "fault(1)", x.fault(1), 980);
        due(3, "end(0)", x.end(0), 0);
        due(3, "count(7)", x.count(7), 0);
        due(3, "end(1)", x.end(1), -1);
    }

    private static void landAndFault() {
        WheelMemory x = new WheelMemory();
        due(5, "fault(0) ahead of any", x.fault(0), 0);
        due(5, "fault(1) ahead of any", x.fault(1), -1);
        say(x, A);
        due(4, "land()", x.land(), 14);
        due(4, "count(7)", x.count(7), 0);
        due(5, "fault(0)", x.fault(0), 0);
        due(5, "fault(1)", x.fault(1), -1);
        x.drive(0, 0);
        say(x, "land places 2 hand 1; road 0 to 2 miles 1;");
        due(4, "land()", x.land(), -4);
        due(5, "fault(0)", x.fault(0), 2);
        due(5, "fault(1)", x.fault(1), 32);
        due(5, "fault(2)", x.fault(2), -1);
        due(5, "fault(-1)", x.fault(-1), -1);
        due(4, "count(7)", x.count(7), 42);
        due(4, "count(8)", x.count(8), 1);
        due(4, "count(6)", x.count(6), 14);
        x.end(21);
        due(4, "land()", x.land(), 1);
        due(5, "fault(0)", x.fault(0), 0);
        due(4, "count(8)", x.count(8), 0);
        due(4, "count(1)", x.count(1), 0);
        due(4, "cart(0, 0)", x.cart(0, 0), -2);
        say(x, " \n \n");
        due(4, "land() of blanks", x.land(), 0);
        due(4, "count(7)", x.count(7), 0);
        due(4, "roads(0)", x.roads(0), -2);
        due(4, "undo()", x.undo(), -2);
        say(x, A);
        x.land();
        due(4, "land() of nothing", x.land(), 0);
        due(4, "count(0)", x.count(0), 0);
    }

    private static void fault(String text, int kind, int place) {
        WheelMemory x = new WheelMemory();
        say(x, text);
        int got = x.land();
        if (kind == 0) {
            due(4, text, got < 0 ? got : 0, 0);
        } else {
            due(4, text, got, -4);
        }
        due(5, "fault(0) of " + text, x.fault(0), kind);
        due(5, "fault(1) of " + text, x.fault(1), place);
    }

    private static void faults() {
        String land = "land places 3 hand 0;";
        int l = land.length();
        fault("land places 2 hand 0", 1, 20);
        fault("land places 2 hand 0  \n", 1, 23);
        fault("land places 2 hand", 1, 18);
        fault("road 0 to 1 miles 2;", 1, 0);
        fault("landplaces 2 hand 0;", 1, 0);
        fault("  ;", 1, 2);
        fault("7", 1, 0);
        fault("land places2hand0;", 0, -1);
        fault("land\nplaces 0002 hand 040 ; ", 0, -1);
        fault("land\tplaces 2 hand 0;", 1, 4);
        fault("Land places 2 hand 0;", 1, 0);
        fault("land places 2 hand 0;\r", 1, 21);
        fault("land places 1 hand 0;", 2, 12);
        fault("land places 7 hand 0;", 2, 12);
        fault("land places 6 hand 41;", 2, 19);
        fault("land places 99999999999999999999 hand 0;", 2, 12);
        fault("land places 4294967298 hand 0;", 2, 12);
        fault("land places 2 hand -1;", 1, 19);
        fault("land places two hand 1;", 1, 12);
        fault(land + land, 1, l);
        fault(land + ";", 1, l);
        fault(land + "road 0 to 0 miles 1;", 2, l + 10);
        fault(land + "road 3 to 0 miles 1;", 2, l + 5);
        fault(land + "road 0 to 3 miles 1;", 2, l + 10);
        fault(land + "road 0 to 1 miles 0;", 2, l + 18);
        fault(land + "road 0 to 1 miles 21;", 2, l + 18);
        fault(land + "road 2 to 1 miles 20;", 0, -1);
        fault(land + "road 0 to to miles 1;", 1, l + 10);
        fault(land + "road 0 to 1 miles 1 1;", 1, l + 20);
        fault(land + "wheel rim 1000;", 2, l + 10);
        fault(land + "wheel rim 999;", 0, -1);
        fault(land + "wheel rim 9 likes 0 1;", 2, l + 18);
        fault(land + "road 0 to 1 miles 1; wheel rim 9 likes 0 10;", 2, l + 41);
        fault(land + "road 0 to 1 miles 1; wheel rim 9 likes 0 9 likes 1 1;", 2, l + 49);
        fault(land + "road 0 to 1 miles 1; wheel rim 9 likes 0;", 1, l + 40);
        fault(land + "cart at 0 wheels;", 1, l + 16);
        fault(land + "cart at 0 wheels 0;", 2, l + 17);
        fault(land + "wheel rim 1; cart at 3 wheels 0;", 2, l + 21);
        fault(land + "wheel rim 1; cart at 2 wheels 0 0;", 2, l + 32);
        fault(land + "wheel rim 1; cart at 2 wheels 0; cart at 1 wheels 0;", 2, l + 50);
        fault(land + "errand 0 to 0 by 1;", 2, l + 7);
        String cart = land + "wheel rim 1; cart at 2 wheels 0;";
        int c = cart.length();
        fault(cart + "errand 0 to 3 by 1;", 2, c + 12);
        fault(cart + "errand 0 to 2 by 0;", 2, c + 17);
        fault(cart + "errand 0 to 2 by 201;", 2, c + 17);
        fault(cart + "errand 0 to 2 by 200;", 0, -1);
        fault(cart + "errand 1 to 2 by 200;", 2, c + 7);
        fault(land + "road 0 to 5 miles @;", 2, l + 10);
        fault(land + "road 0 to @ miles 50;", 1, l + 10);
        tooMany(land);
    }

    private static void tooMany(String land) {
        String roads = land + "road 0 to 1 miles 1;".repeat(8);
        fault(roads, 0, -1);
        fault(roads + "road", 3, roads.length());
        fault(roads + " roads", 1, roads.length() + 1);
        String wheels = land + "wheel rim 1;".repeat(8);
        fault(wheels, 0, -1);
        fault(wheels + "\nwheel rim 1;", 3, wheels.length() + 1);
        String carts = wheels + "cart at 0 wheels 0;cart at 0 wheels 1;cart at 0 wheels 2;";
        fault(carts, 0, -1);
        fault(carts + "cart at 9", 3, carts.length());
        String errands = carts + "errand 2 to 1 by 5;".repeat(6);
        fault(errands, 0, -1);
        fault(errands + "errand 2 to 1 by 5;", 3, errands.length());
        String seats = wheels + "cart at 0 wheels 4 5 6 7";
        int s = seats.length();
        fault(seats + ";", 0, -1);
        fault(seats + " 0;", 3, s + 1);
        fault(seats + " 4;", 3, s + 1);
        fault(seats + " 8;", 2, s + 1);
        fault(seats + " x;", 1, s + 1);
        String taken = wheels + "cart at 0 wheels 0;cart at 0 wheels 4 5 6 7";
        fault(taken + " 0;", 3, taken.length() + 1);
    }

    private static void whatThereIs() {
        WheelMemory x = of(A);
        int[][] roads = {{0, 1, 4}, {1, 2, 5}, {0, 2, 7}, {2, 3, 2}};
        for (int r = 0; r < 4; r++) for (int w = 0; w < 3; w++) due(6, "road(" + r + ", " + w + ")", x.road(r, w), roads[r][w]);
        due(6, "road(4, 0)", x.road(4, 0), -2);
        due(6, "road(-1, 0)", x.road(-1, 0), -2);
        due(6, "road(0, 3)", x.road(0, 3), -2);
        due(6, "road(0, -1)", x.road(0, -1), -2);
        int[][] likes = {{2, 0, 5, 0}, {1, 3, 4, 0}, {0, 0, 0, 6}, {0, 2, 0, 0}};
        for (int w = 0; w < 4; w++) for (int r = 0; r < 4; r++) due(7, "likes(" + w + ", " + r + ")", x.likes(w, r), likes[w][r]);
        due(7, "likes(4, 0)", x.likes(4, 0), -2);
        due(7, "likes(0, 4)", x.likes(0, 4), -2);
        due(7, "likes(-1, 0)", x.likes(-1, 0), -2);
        due(7, "likes(0, -1)", x.likes(0, -1), -2);
        int[][] wheels = {{100, 0, 7}, {10, 0, 8}, {30, 1, 6}, {50, -1, 2}};
        for (int w = 0; w < 4; w++) for (int i = 0; i < 3; i++) due(8, "wheel(" + w + ", " + i + ")", x.wheel(w, i), wheels[w][i]);
        due(8, "wheel(4, 0)", x.wheel(4, 0), -2);
        due(8, "wheel(-1, 0)", x.wheel(-1, 0), -2);
        due(8, "wheel(0, 3)", x.wheel(0, 3), -2);
        int[][] carts = {{0, 3, 0}, {3, 4, 0}};
        for (int c = 0; c < 2; c++) for (int i = 0; i < 3; i++) due(9, "cart(" + c + ", " + i + ")", x.cart(c, i), carts[c][i]);
        due(9, "cart(2, 0)", x.cart(2, 0), -2);
        due(9, "cart(-1, 0)", x.cart(-1, 0), -2);
        due(9, "cart(0, 3)", x.cart(0, 3), -2);
        int[][] errands = {{0, 2, 7}, {0, 3, 8}, {1, 0, 200}};
        for (int e = 0; e < 3; e++) for (int i = 0; i < 3; i++) due(10, "errand(" + e + ", " + i + ")", x.errand(e, i), errands[e][i]);
        due(10, "errand(3, 0)", x.errand(3, 0), -2);
        due(10, "errand(0, 3)", x.errand(0, 3), -2);
        due(10, "errand(-1, 0)", x.errand(-1, 0), -2);
        int[] at = {5, 3, 14, 8, 0};
        for (int p = 0; p < 5; p++) due(11, "roads(" + p + ")", x.roads(p), at[p]);
        due(11, "roads(5)", x.roads(5), -2);
        due(11, "roads(-1)", x.roads(-1), -2);
        WheelMemory y = of("land places 2 hand 0; road 0 to 1 miles 1; wheel rim 1 likes 0 9 likes 0 2; road 1 to 0 miles 1;");
        due(7, "a later one strikes", y.likes(0, 0), 2);
        due(7, "0 without", y.likes(0, 1), 0);
    }

    private static void turns() {
        WheelMemory x = of(A);
        int[] pulls = {3, 3, 9, 0};
        for (int r = 0; r < 4; r++) due(12, "pull(0, " + r + ")", x.pull(0, r), pulls[r]);
        due(12, "pull(1, 3)", x.pull(1, 3), 6);
        due(12, "pull(2, 0)", x.pull(2, 0), -2);
        due(12, "pull(0, 4)", x.pull(0, 4), -2);
        due(12, "pull(0, -1)", x.pull(0, -1), -2);
        due(13, "takes(0, -1)", x.takes(0, -1), 2);
        due(13, "takes(0, 0)", x.takes(0, 0), 2);
        due(13, "takes(0, 2)", x.takes(0, 2), 2);
        due(13, "takes(0, 1)", x.takes(0, 1), -2);
        due(13, "takes(0, 4)", x.takes(0, 4), -2);
        due(13, "takes(0, -2)", x.takes(0, -2), -2);
        due(13, "takes(2, -1)", x.takes(2, -1), -2);
        due(14, "aside(0)", x.aside(0), 1);
        due(14, "aside(1)", x.aside(1), 0);
        due(14, "aside(2)", x.aside(2), -2);
        due(14, "aside(-1)", x.aside(-1), -2);
        due(15, "argue(0, 0)", x.argue(0, 0), 6);
        due(15, "argue(0, 2)", x.argue(0, 2), 0);
        due(15, "argue(0, -1)", x.argue(0, -1), -2);
        due(15, "argue(0, 1)", x.argue(0, 1), -2);
        due(15, "argue(2, 0)", x.argue(2, 0), -2);
        x.hand(5);
        due(13, "takes(0, 0), hand 5", x.takes(0, 0), 2);
        x.hand(6);
        due(13, "takes(0, 0), hand 6: alike, the one wanted", x.takes(0, 0), 0);
        due(14, "aside(0), hand 6", x.aside(0), 0);
        WheelMemory y = of("land places 2 hand 0; road 0 to 1 miles 1; road 1 to 0 miles 2; road 0 to 1 miles 3; wheel rim 9; cart at 1 wheels 0;");
        due(13, "of like ones the least", y.takes(0, -1), 0);
        due(13, "of like ones the one wanted", y.takes(0, 2), 2);
        due(15, "argue alike", y.argue(0, 2), 0);
        WheelMemory z = of(LONELY);
        due(13, "takes without ROADS", z.takes(0, -1), -1);
        due(13, "takes a ROAD elsewhere", z.takes(0, 0), -2);
        due(14, "aside without ROADS", z.aside(0), 0);
        due(15, "argue without ROADS", z.argue(0, 0), -2);
        WheelMemory w = of("land places 2 hand 0; road 0 to 1 miles 1; road 1 to 0 miles 2; wheel rim 9 likes 0 9; wheel rim 9 likes 0 9;"
                + "wheel rim 9 likes 0 9; wheel rim 9 likes 0 9; cart at 1 wheels 0 1 2 3;");
        due(15, "argue against four WHEELS", w.argue(0, 1), 36);
    }

    private static void acts() {
        WheelMemory x = of(A);
        due(16, "drive(0, 1)", x.drive(0, 1), -2);
        due(16, "drive(2, -1)", x.drive(2, -1), -2);
        due(16, "drive(0, 0)", x.drive(0, 0), 2);
        due(16, "likes(0, 2)", x.likes(0, 2), 6);
        due(16, "likes(1, 2)", x.likes(1, 2), 5);
        due(16, "likes(2, 2)", x.likes(2, 2), 0);
        due(16, "wheel(0, 0)", x.wheel(0, 0), 93);
        due(16, "wheel(1, 0)", x.wheel(1, 0), 3);
        due(16, "cart(0, 0)", x.cart(0, 0), 2);
        due(16, "cart(0, 2)", x.cart(0, 2), 7);
        due(16, "drive(0, 3)", x.drive(0, 3), 0);
        due(16, "wheel(1, 0) worn", x.wheel(1, 0), 0);
        due(16, "wheel(1, 2) worn", x.wheel(1, 2), 0);
        due(16, "wheel(0, 2)", x.wheel(0, 2), 9);
        due(16, "cart(0, 2)", x.cart(0, 2), 14);
        due(16, "cart(1, 2)", x.cart(1, 2), 0);
        due(16, "drive(0, -1)", x.drive(0, -1), 2);
        due(16, "a worn WHEEL forgets each time", x.wheel(1, 2), 0);
        due(16, "drive without ROADS", of(LONELY).drive(0, -1), -5);
        due(16, "drive a ROAD elsewhere", of(LONELY).drive(0, 0), -2);

        WheelMemory y = of("land places 2 hand 0; road 0 to 1 miles 5; wheel rim 5 likes 0 9; cart at 0 wheels 0;");
        y.drive(0, 0);
        due(16, "9 at most", y.likes(0, 0), 9);
        due(16, "rim 0 is not below", y.wheel(0, 0), 0);
        y.drive(0, 0);
        due(16, "below 0 it likes none", y.likes(0, 0), 0);

        WheelMemory z = of(A);
        due(17, "swap(1, 2)", z.swap(1, 2), 0);
        due(17, "cart(0, 1)", z.cart(0, 1), 5);
        due(17, "cart(1, 1)", z.cart(1, 1), 2);
        due(17, "wheel(1, 1)", z.wheel(1, 1), 1);
        due(17, "swap(0, 3)", z.swap(0, 3), 0);
        due(17, "wheel(0, 1)", z.wheel(0, 1), -1);
        due(17, "wheel(3, 1)", z.wheel(3, 1), 0);
        due(17, "cart(0, 1)", z.cart(0, 1), 12);
        due(17, "swap(0, 1)", z.swap(0, 1), 0);
        due(17, "cart(1, 1)", z.cart(1, 1), 1);
        due(17, "swap(2, 3)", z.swap(2, 3), 0);
        due(17, "cart(0, 1)", z.cart(0, 1), 12);
        due(17, "count(8)", z.count(8), 4);
        due(17, "swap(1, 1)", z.swap(1, 1), -2);
        due(17, "swap(4, 1)", z.swap(4, 1), -2);
        due(17, "swap(1, -1)", z.swap(1, -1), -2);
        due(18, "grease(1)", z.grease(1), 8);
        due(18, "wheel(1, 2)", z.wheel(1, 2), 0);
        due(18, "wheel(1, 0)", z.wheel(1, 0), 10);
        due(18, "grease(1) again", z.grease(1), 0);
        due(18, "count(8)", z.count(8), 6);
        due(18, "grease(4)", z.grease(4), -2);
        due(18, "grease(-1)", z.grease(-1), -2);
        fortyActs();
    }

    private static void fortyActs() {
        WheelMemory x = of(C);
        for (int i = 0; i < 40; i++) due(16, "drive " + i, x.drive(0, i % 2 == 0 ? 1 : -1), i % 2 == 0 ? 2 : 0);
        due(16, "a 41st", x.drive(0, 0), -5);
        due(16, "-2 ahead of -5", x.drive(0, 2), -2);
        due(17, "a 41st, -2 ahead", x.swap(0, 0), -2);
        due(18, "a 41st", x.grease(0), -5);
        due(18, "-2 ahead of -5", x.grease(1), -2);
        due(16, "count(8)", x.count(8), 40);
        due(19, "undo()", x.undo(), 39);
        due(18, "grease(0)", x.grease(0), 9);
        WheelMemory y = of(A);
        for (int i = 0; i < 40; i++) y.swap(0, 1);
        due(17, "a 41st", y.swap(0, 1), -5);
        due(17, "-2 ahead of -5", y.swap(0, 4), -2);
        due(20, "anew()", y.anew(), 40);
        due(17, "swap(0, 1)", y.swap(0, 1), 0);
    }

    private static void undoing() {
        WheelMemory x = of(A);
        due(19, "undo() of none", x.undo(), -5);
        due(20, "anew() of none", x.anew(), 0);
        x.drive(0, 0);
        x.drive(0, 3);
        x.swap(1, 3);
        x.grease(0);
        due(19, "undo()", x.undo(), 3);
        due(19, "wheel(0, 2)", x.wheel(0, 2), 9);
        due(19, "cart(0, 1)", x.cart(0, 1), 9);
        due(19, "undo()", x.undo(), 2);
        due(19, "cart(0, 1)", x.cart(0, 1), 3);
        due(19, "wheel(1, 2) still worn", x.wheel(1, 2), 0);
        due(19, "undo()", x.undo(), 1);
        due(19, "wheel(1, 2)", x.wheel(1, 2), 9);
        due(19, "wheel(1, 0)", x.wheel(1, 0), 3);
        due(19, "cart(0, 2)", x.cart(0, 2), 7);
        due(19, "cart(0, 0)", x.cart(0, 0), 2);
        x.grease(2);
        due(20, "anew()", x.anew(), 2);
        due(20, "wheel(2, 2)", x.wheel(2, 2), 6);
        due(20, "wheel(1, 0)", x.wheel(1, 0), 10);
        due(20, "cart(0, 0)", x.cart(0, 0), 0);
        due(20, "cart(0, 2)", x.cart(0, 2), 0);
        due(20, "count(8)", x.count(8), 0);
        due(19, "undo()", x.undo(), -5);
    }

    private static void trip(WheelMemory x, int slot, int cart, int... want) {
        String of = "(" + slot + ", " + cart + ")";
        due(21, "goes" + of, x.goes(slot, cart), want[0]);
        due(22, "ends" + of, x.ends(slot, cart), want[want.length - 1 < 1 ? 0 : 1]);
        due(23, "ran" + of, x.ran(slot, cart), want[want.length - 1 < 2 ? 0 : 2]);
        due(24, "astray" + of, x.astray(slot, cart), want[want.length - 1 < 3 ? 0 : 3]);
        due(25, "worn" + of, x.worn(slot, cart), want[want.length - 1 < 4 ? 0 : 4]);
    }

    private static void rowsWanted() {
        WheelMemory x = of(A);
        row(x, 0, 2, 2, 2);
        trip(x, 0, 0, 3, 2, 21, -1, 1);
        row(x, 0, 0, 1, 3);
        // 0 is wanted, it goes by 2; 1 is wanted, it goes by 2; 3 is not of its PLACE then
        trip(x, 0, 0, 2, 0, 14, 0, 1);
        row(x, 1, 3);
        trip(x, 1, 0, 0, 0, 0, -1, -1);
        trip(x, 1, 1, 1, 2, 2, -1, -1);
        row(x, 2, -1, -1);
        trip(x, 2, 0, 2, 0, 14, -1, 1);
        row(x, 2, -1, 1, 0);
        trip(x, 2, 0, 3, 2, 21, 1, 1);
        row(x, 3);
        trip(x, 3, 0, 0, 0, 0, -1, -1);
        due(21, "nothing is done", x.count(8), 0);
        due(21, "nothing is done", x.cart(0, 2), 0);
        x.drive(0, 0);
        row(x, 0, 2);
        trip(x, 0, 0, 1, 0, 7, -1, 0);
        trip(x, 4, 0, -2);
        trip(x, -1, 0, -2);
        trip(x, 0, 2, -2);
        trip(x, 0, -1, -2);
        row(x, 0, 2, 4);
        trip(x, 0, 0, -2);
        row(x, 0, 3, -2);
        trip(x, 0, 0, -2);
        WheelMemory y = of(A);
        trip(y, 0, 0, -6);
        trip(y, 0, 2, -2);
        y.row(0, 3, 1);
        y.write(0, 0, 4294967296L);
        trip(y, 0, 0, -2);
        WheelMemory z = of(LONELY);
        row(z, 0, -1);
        trip(z, 0, 0, 0, 2, 0, -1, -1);
    }

    private static void wearOnTheWay() {
        WheelMemory x = of("land places 2 hand 9; road 0 to 1 miles 5; wheel rim 0; wheel rim 10; cart at 0 wheels 0; cart at 0 wheels 1;");
        row(x, 0, 0, 0, 0);
        due(25, "rim 0 at first", x.worn(0, 0), 0);
        due(25, "rim 0 behind two", x.worn(0, 1), 1);
        row(x, 0);
        due(25, "behind none", x.worn(0, 0), -1);
    }

    private static void ways() {
        WheelMemory x = of(A);
        int[] miles = {0, -1, 7, -1, -1};
        for (int p = 0; p < 5; p++) due(26, "way(0, " + p + ")", x.way(0, p), miles[p]);
        due(26, "way(1, 2)", x.way(1, 2), 2);
        due(26, "way(1, 0)", x.way(1, 0), -1);
        due(26, "way(2, 0)", x.way(2, 0), -2);
        due(26, "way(0, 5)", x.way(0, 5), -2);
        due(26, "way(0, -1)", x.way(0, -1), -2);
        due(27, "wants(0, 2, 0): 0 is less than 2", x.wants(0, 2, 0), 0);
        due(27, "wants(0, 2, 1)", x.wants(0, 2, 1), -1);
        due(27, "wants(0, 2, -1)", x.wants(0, 2, -1), -1);
        due(27, "wants(0, 0, 0)", x.wants(0, 0, 0), -1);
        due(27, "wants(0, 1, 0)", x.wants(0, 1, 0), -1);
        due(27, "wants(2, 1, 0)", x.wants(2, 1, 0), -2);
        due(27, "wants(0, 5, 0)", x.wants(0, 5, 0), -2);
        due(28, "reach(0)", x.reach(0), 5);
        due(28, "reach(1)", x.reach(1), 12);
        due(28, "reach(2)", x.reach(2), -2);
        due(28, "reach lonely", of(LONELY).reach(0), 4);
        int[][] far = {{0, 4, 7, 9, -1}, {4, 0, 5, 7, -1}, {7, 5, 0, 2, -1}, {9, 7, 2, 0, -1}, {-1, -1, -1, -1, 0}};
        for (int p = 0; p < 5; p++) for (int q = 0; q < 5; q++) due(29, "far(" + p + ", " + q + ")", x.far(p, q), far[p][q]);
        due(29, "far(5, 0)", x.far(5, 0), -2);
        due(29, "far(0, 5)", x.far(0, 5), -2);
        due(29, "far(-1, 0)", x.far(-1, 0), -2);
        x.hand(6);
        due(26, "way(0, 1), hand 6", x.way(0, 1), 4);
        due(27, "wants(0, 1, 0), hand 6", x.wants(0, 1, 0), 0);
        due(26, "nothing is done", x.count(8), 0);
    }

    private static void waysOfLike() {
        // from 0 to 2 by 0, 1 (2 miles) or by 2 (2 miles): the fewest; to 3 three rows of 3 miles: the least of two ROADS
        WheelMemory x = of("land places 6 hand 40; road 0 to 1 miles 1; road 1 to 2 miles 1; road 0 to 2 miles 2; road 2 to 3 miles 1;"
                + "road 1 to 3 miles 2; road 3 to 4 miles 9; road 4 to 5 miles 1; wheel rim 999; cart at 0 wheels 0;");
        due(26, "way(0, 2)", x.way(0, 2), 2);
        due(27, "the fewest", x.wants(0, 2, 0), 2);
        due(27, "the fewest", x.wants(0, 2, 1), -1);
        due(26, "way(0, 3)", x.way(0, 3), 3);
        due(27, "the least row", x.wants(0, 3, 0), 0);
        due(27, "the least row", x.wants(0, 3, 1), 4);
        due(27, "the least row", x.wants(0, 3, 2), -1);
        due(26, "way(0, 5)", x.way(0, 5), 13);
        due(27, "wants(0, 5, 3)", x.wants(0, 5, 3), 6);
        due(28, "reach(0)", x.reach(0), 63);
        WheelMemory y = of("land places 6 hand 40; road 0 to 1 miles 1; road 1 to 2 miles 1; road 2 to 3 miles 1; road 3 to 4 miles 1;"
                + "road 4 to 5 miles 1; wheel rim 999; cart at 0 wheels 0; errand 0 to 5 by 200; errand 0 to 4 by 4; errand 0 to 4 by 3;");
        due(26, "four ROADS", y.way(0, 4), 4);
        due(27, "four ROADS", y.wants(0, 4, 3), 3);
        due(26, "no fifth", y.way(0, 5), -1);
        due(28, "reach(0)", y.reach(0), 31);
        due(30, "dues()", y.dues(), 2);
        // learning on the way: back and forth by 0 till the rim is gone, then 1 can be had
        WheelMemory z = of("land places 3 hand 0; road 0 to 1 miles 3; road 0 to 2 miles 1; wheel rim 5 likes 0 5; cart at 0 wheels 0;");
        due(26, "way through wear", z.way(0, 2), 7);
        due(27, "the least row", z.wants(0, 2, 0), 0);
        due(27, "the least row", z.wants(0, 2, 1), 0);
        due(27, "the least row", z.wants(0, 2, 2), 1);
    }

    private static void duesAndChoice() {
        WheelMemory x = of(A);
        due(30, "dues()", x.dues(), 1);
        x.hand(40);
        due(30, "dues(), hand 40", x.dues(), 5);
        due(30, "dues() lonely", of(LONELY).dues(), 1);
        WheelMemory y = of(A);
        due(31, "choose(0, 1)", y.choose(0, 1), 4);
        due(32, "chosen(0, 1)", y.chosen(0, 1), 9);
        due(31, "choose(0, 0)", y.choose(0, 0), 0);
        due(32, "chosen(0, 0)", y.chosen(0, 0), 3);
        due(31, "choose(0, 4)", y.choose(0, 4), -1);
        due(32, "chosen(0, 4)", y.chosen(0, 4), -1);
        // wheel 3 alone likes nothing at 3, and 1 at 2
        due(31, "choose(1, 1)", y.choose(1, 1), 7);
        due(32, "chosen(1, 1)", y.chosen(1, 1), 8);
        due(31, "choose(2, 0)", y.choose(2, 0), -2);
        due(31, "choose(0, 5)", y.choose(0, 5), -2);
        due(32, "chosen(2, 0)", y.chosen(2, 0), -2);
        due(32, "chosen(0, 5)", y.chosen(0, 5), -2);
        due(31, "nothing is done", y.cart(0, 1), 3);
    }

    private static void roaming() {
        WheelMemory x = of(A);
        due(33, "roams(0, 0)", x.roams(0, 0), 0);
        due(33, "roams(0, 1)", x.roams(0, 1), 2);
        due(33, "roams(0, 2)", x.roams(0, 2), 0);
        // by 2 to and fro till the 15th time wears the other wheel, too; then from 2 by 1, and by 0 to and fro
        due(33, "roams(0, 15)", x.roams(0, 15), 2);
        due(33, "roams(0, 16)", x.roams(0, 16), 1);
        due(33, "roams(0, 39)", x.roams(0, 39), 0);
        due(33, "roams(0, 40)", x.roams(0, 40), 1);
        due(33, "roams(0, 41)", x.roams(0, 41), -2);
        due(33, "roams(0, -1)", x.roams(0, -1), -2);
        due(33, "roams(2, 1)", x.roams(2, 1), -2);
        due(34, "circle(0)", x.circle(0), 2);
        due(34, "circle(2)", x.circle(2), -2);
        due(34, "circle lonely", of(LONELY).circle(0), -1);
        due(35, "haunts(0)", x.haunts(0), 0);
        // 9 times in 3, 9 times in 2, worn behind the 16th; then 12 times in 1, 11 times in 0
        due(35, "haunts(1)", x.haunts(1), 1);
        due(35, "haunts(-1)", x.haunts(-1), -2);
        due(35, "haunts lonely", of(LONELY).haunts(0), 2);
        due(33, "roams lonely", of(LONELY).roams(0, 40), 2);
        due(33, "nothing is done", x.count(8), 0);
        // 0 to 1 by 0 and then on by 1, as it likes; then by 2 to 0: a triangle till 1 and 0 are liked like the next
        WheelMemory y = of("land places 3 hand 0; road 0 to 1 miles 1; road 1 to 2 miles 1; road 2 to 0 miles 1;"
                + "wheel rim 2 likes 0 1 likes 1 3 likes 2 7; cart at 1 wheels 0;");
        // 1 -> 2 by 1 (4), 2 -> 0 by 2 (8), 0 -> 2 by 2: worn; then from 2 by 1, from 1 by 0, from 0 by 0, and so on
        due(34, "circle", y.circle(0), 3);
        due(33, "roams(0, 3)", y.roams(0, 3), 2);
        due(33, "roams(0, 4)", y.roams(0, 4), 1);
        due(33, "roams(0, 5)", y.roams(0, 5), 0);
        due(33, "roams(0, 6)", y.roams(0, 6), 1);
        // 0, 4, 6, .., 40 in 1; 2, 5, 7, .., 39 in 0; 1 and 3 in 2
        due(35, "haunts", y.haunts(0), 1);
    }

    private static void meeting() {
        WheelMemory x = of(A);
        int[] in = {0, 1, 1, 1, -1};
        int[] where = {0, 2, 2, 2, -1};
        for (int p = 0; p < 5; p++) {
            due(36, "meet(0, " + p + ")", x.meet(0, p), in[p]);
            due(37, "met(0, " + p + ")", x.met(0, p), where[p]);
        }
        due(36, "meet(1, 0)", x.meet(1, 0), 1);
        due(37, "met(1, 0)", x.met(1, 0), 2);
        due(36, "meet(2, 0)", x.meet(2, 0), -2);
        due(36, "meet(0, 5)", x.meet(0, 5), -2);
        due(37, "met(2, 0)", x.met(2, 0), -2);
        due(37, "met(0, -1)", x.met(0, -1), -2);
        due(36, "meet lonely", of(LONELY).meet(0, 0), -1);
        due(36, "meet lonely", of(LONELY).meet(0, 2), 0);
        due(37, "met lonely", of(LONELY).met(0, 2), 2);
        // it goes 0, 1, 0, 1, ..; one in 4 is in 1 behind 3
        WheelMemory y = of("land places 5 hand 0; road 0 to 1 miles 1; road 1 to 2 miles 1; road 2 to 3 miles 1; road 3 to 4 miles 1;"
                + "wheel rim 99; cart at 0 wheels 0;");
        due(36, "meet(0, 4)", y.meet(0, 4), 3);
        due(37, "met(0, 4)", y.met(0, 4), 1);
        due(36, "meet(0, 3)", y.meet(0, 3), 3);
        due(36, "meet(0, 2)", y.meet(0, 2), 1);
    }

    private static void fitting(WheelMemory x, int slot, int fits, int ask, int leaves) {
        due(38, "fits(" + slot + ")", x.fits(slot), fits);
        due(39, "ask(" + slot + ")", x.ask(slot), ask);
        due(40, "leaves(" + slot + ")", x.leaves(slot), leaves);
    }

    private static void fitting() {
        WheelMemory x = of(A);
        fitting(x, 3, -6, -6, -6);
        row(x, 3, 0, 2);
        fitting(x, 3, 3, 1, 1);
        row(x, 3, 2, 1);
        fitting(x, 3, 8, -1, 1);
        row(x, 3, 0, 2, 2, 1);
        fitting(x, 3, 0, -1, 0);
        row(x, 3, 0, 0, 3, 3);
        fitting(x, 3, 12, 1, 1);
        row(x, 3);
        fitting(x, 3, 15, 0, 2);
        row(x, 3, 0, 1);
        fitting(x, 3, -2, -2, -2);
        row(x, 3, 4, 0);
        fitting(x, 3, -2, -2, -2);
        row(x, 3, 5, 0);
        fitting(x, 3, -2, -2, -2);
        row(x, 3, 0, 4);
        fitting(x, 3, -2, -2, -2);
        row(x, 3, 0, -1);
        fitting(x, 3, -2, -2, -2);
        row(x, 3, 0, 2, 2);
        fitting(x, 3, -2, -2, -2);
        fitting(x, 4, -2, -2, -2);
        fitting(x, -1, -2, -2, -2);
        WheelMemory none = new WheelMemory();
        fitting(none, 0, -2, -2, -2);
        row(none, 0);
        fitting(none, 0, -2, -2, -2);
        x.grease(0);
        row(x, 3, 0, 2);
        fitting(x, 3, 2, -1, 1);
        // all alike: there is nothing to ask
        WheelMemory y = of("land places 2 hand 0; road 0 to 1 miles 1; wheel rim 1; wheel rim 2;");
        row(y, 0, 0, 0);
        fitting(y, 0, 3, -1, 2);
        WheelMemory z = of("land places 2 hand 0; wheel rim 1; wheel rim 2;");
        row(z, 0);
        fitting(z, 0, 3, -1, 2);
        WheelMemory w = of("land places 2 hand 0;");
        row(w, 0);
        fitting(w, 0, 0, -1, 0);
    }

    private static void liking() {
        WheelMemory x = of(A);
        due(41, "votes(0, 0)", x.votes(0, 0), 12);
        due(41, "votes(0, 2)", x.votes(0, 2), 3);
        due(41, "votes(1, 1)", x.votes(1, 1), 10);
        due(41, "votes(2, 1)", x.votes(2, 1), 8);
        due(41, "votes(3, 3)", x.votes(3, 3), 15);
        due(41, "votes(0, 1)", x.votes(0, 1), -2);
        due(41, "votes(5, 1)", x.votes(5, 1), -2);
        due(41, "votes(0, 4)", x.votes(0, 4), -2);
        int[] loved = {3, 5, 9, 6};
        for (int r = 0; r < 4; r++) due(42, "loved(" + r + ")", x.loved(r), loved[r]);
        due(42, "loved(4)", x.loved(4), -2);
        due(42, "loved(-1)", x.loved(-1), -2);
        due(43, "dearest()", x.dearest(), 2);
        x.grease(0);
        due(43, "dearest()", x.dearest(), 3);
        x.grease(2);
        due(42, "loved(1)", x.loved(1), 5);
        due(43, "dearest()", x.dearest(), 1);
        due(43, "dearest() of none", of("land places 2 hand 0; wheel rim 1;").dearest(), -1);
        due(43, "the least of several", of("land places 2 hand 0; road 0 to 1 miles 1; road 0 to 1 miles 1;").dearest(), 0);
        WheelMemory y = of(A);
        int[][] agree = {{4, 3, 2, 1}, {3, 4, 1, 2}, {2, 1, 4, 2}, {1, 2, 2, 4}};
        for (int a = 0; a < 4; a++) for (int b = 0; b < 4; b++) due(44, "agree(" + a + ", " + b + ")", y.agree(a, b), agree[a][b]);
        due(44, "agree(4, 0)", y.agree(4, 0), -2);
        due(44, "agree(0, -1)", y.agree(0, -1), -2);
        int[] mate = {1, 0, 0, 1};
        for (int w = 0; w < 4; w++) due(45, "mate(" + w + ")", y.mate(w), mate[w]);
        due(45, "mate(4)", y.mate(4), -2);
        due(45, "mate(-1)", y.mate(-1), -2);
        due(45, "mate of one", of(C).mate(0), -1);
        due(45, "mate of two without ROADS", of("land places 2 hand 0; wheel rim 1; wheel rim 1;").mate(1), 0);
    }

    private static void teaching() {
        WheelMemory x = of(A);
        due(46, "teach(0, 0)", x.teach(0, 0), 3);
        due(46, "teach(0, 1)", x.teach(0, 1), 5);
        due(46, "teach(0, 2)", x.teach(0, 2), 0);
        due(46, "teach(1, 1)", x.teach(1, 1), 1);
        due(46, "teach(1, 3): the rim is just enough", x.teach(1, 3), 5);
        due(46, "teach(2, 2): the rim is not enough", x.teach(2, 2), -1);
        due(46, "teach(4, 0)", x.teach(4, 0), -2);
        due(46, "teach(0, 4)", x.teach(0, 4), -2);
        due(46, "teach(0, -1)", x.teach(0, -1), -2);
        due(46, "nothing is done", x.likes(0, 0), 2);
        WheelMemory y = of("land places 2 hand 0; road 0 to 1 miles 20; road 0 to 1 miles 20; wheel rim 999 likes 0 9; wheel rim 39 likes 1 9;");
        // 9 is as much as can be liked, and of like ones the least is taken, till the rim is gone: 49 times 20 are 980
        due(46, "never by liking", y.teach(0, 1), -1);
        due(46, "by wear: it likes no other one", y.teach(1, 0), 2);
    }

    private static void greasing() {
        WheelMemory x = of(A);
        due(47, "blind(0, 0)", x.blind(0, 0), 2);
        due(48, "blinds(0, 0)", x.blinds(0, 0), 3);
        due(47, "blind(0, 2)", x.blind(0, 2), 0);
        due(48, "blinds(0, 2)", x.blinds(0, 2), 0);
        due(47, "blind(0, 1)", x.blind(0, 1), -2);
        due(48, "blinds(0, 1)", x.blinds(0, 1), -2);
        due(47, "blind(0, -1)", x.blind(0, -1), -2);
        due(48, "blinds(0, -1)", x.blinds(0, -1), -2);
        due(47, "blind(2, 0)", x.blind(2, 0), -2);
        x.drive(1, -1);
        due(47, "blind(1, 1)", x.blind(1, 1), 1);
        due(48, "blinds(1, 1)", x.blinds(1, 1), 4);
        due(47, "blind(1, 2)", x.blind(1, 2), -1);
        due(48, "blinds(1, 2)", x.blinds(1, 2), -1);
        due(47, "blind(1, 3)", x.blind(1, 3), 0);
        // either of the two that like 0 most will do: the least set
        WheelMemory y = of("land places 2 hand 0; road 0 to 1 miles 1; road 0 to 1 miles 1; wheel rim 1 likes 1 5; wheel rim 1 likes 0 3;"
                + "wheel rim 1 likes 0 3; cart at 0 wheels 2 1 0;");
        due(47, "blind(0, 1)", y.blind(0, 1), 1);
        due(48, "blinds(0, 1)", y.blinds(0, 1), 2);
        due(48, "nothing is done", y.loved(0), 6);
        due(49, "lasts(1, 4)", x.lasts(1, 4), 3);
        due(49, "lasts(1, 5)", x.lasts(1, 5), 3);
        due(49, "lasts(1, 11)", x.lasts(1, 11), 1);
        due(49, "lasts(0, 20)", x.lasts(0, 20), 6);
        due(49, "lasts(3, 1)", x.lasts(3, 1), 51);
        due(49, "lasts(0, 0)", x.lasts(0, 0), -2);
        due(49, "lasts(0, 21)", x.lasts(0, 21), -2);
        due(49, "lasts(4, 1)", x.lasts(4, 1), -2);
        due(49, "lasts(-1, 1)", x.lasts(-1, 1), -2);
    }

    private static void sharing() {
        WheelMemory x = of(A);
        due(50, "share(0, 100, 0)", x.share(0, 100, 0), 47);
        due(50, "share(0, 100, 1)", x.share(0, 100, 1), 53);
        due(50, "share(0, 0, 1)", x.share(0, 0, 1), 0);
        due(50, "share(0, 10000, 1)", x.share(0, 10000, 1), 5333);
        due(50, "share(0, 10000, 0)", x.share(0, 10000, 0), 4667);
        due(50, "share(1, 50, 2)", x.share(1, 50, 2), 50);
        due(50, "share(0, 10, 2)", x.share(0, 10, 2), -2);
        due(50, "share(0, 10, 3)", x.share(0, 10, 3), -2);
        due(50, "share(0, 10001, 0)", x.share(0, 10001, 0), -2);
        due(50, "share(0, -1, 0)", x.share(0, -1, 0), -2);
        due(50, "share(2, 1, 0)", x.share(2, 1, 0), -2);
        due(50, "share(-1, 1, 3)", x.share(-1, 1, 3), -2);
        due(50, "share(0, 1, 4)", x.share(0, 1, 4), -2);
        x.grease(0);
        due(50, "one likes nothing", x.share(0, 9, 0), 0);
        x.grease(1);
        due(50, "all like nothing", x.share(0, 9, 0), 5);
        due(50, "all like nothing", x.share(0, 9, 1), 4);
        WheelMemory y = of("land places 2 hand 0; road 0 to 1 miles 1; wheel rim 1 likes 0 1; wheel rim 1 likes 0 1;"
                + "wheel rim 1 likes 0 1; cart at 0 wheels 2 1 0;");
        for (int w = 0; w < 3; w++) due(50, "of what is left one each", y.share(0, 11, w), w < 2 ? 4 : 3);
        WheelMemory z = of(A);
        int[] worth = {43, 47, 12, 10};
        for (int w = 0; w < 4; w++) due(51, "worth(" + w + ")", z.worth(w), worth[w]);
        due(51, "worth(4)", z.worth(4), -2);
        due(51, "worth(-1)", z.worth(-1), -2);
        z.grease(0);
        due(51, "worth(0)", z.worth(0), 0);
    }

    private static void smithing() {
        WheelMemory x = of(A);
        due(52, "smiths()", x.smiths(), 10);
        due(53, "picks()", x.picks(), 3);
        x.swap(0, 3);
        due(52, "smiths()", x.smiths(), 43);
        due(53, "picks()", x.picks(), 0);
        due(52, "smiths() of none", of(C).smiths(), 0);
        due(53, "picks() of none", of(C).picks(), -1);
        // by 0 he would have 5 less 9, by 1 4 less 1
        WheelMemory y = of("land places 2 hand 0; road 0 to 1 miles 1; wheel rim 1 likes 0 5; wheel rim 9 likes 0 4;");
        due(52, "smiths()", y.smiths(), 3);
        due(53, "picks()", y.picks(), 1);
        // worth and rim together 3, 3, 5, 5: whichever he picks first, he has 8 of them in the end, less all rims
        WheelMemory z = of("land places 2 hand 0; road 0 to 1 miles 1; wheel rim 0 likes 0 3; wheel rim 1 likes 0 2; wheel rim 2 likes 0 3; wheel rim 5;");
        due(52, "smiths()", z.smiths(), 0);
        due(53, "of like WHEELS the least", z.picks(), 0);
        WheelMemory w = of("land places 2 hand 0; wheel rim 999; wheel rim 999; wheel rim 999;");
        due(52, "below 0", w.smiths(), -999);
        due(53, "picks()", w.picks(), 0);
    }

    private static void drawing() {
        WheelMemory x = of(A);
        // draws from 5: 2 is wanted; 1, it goes by 2; 0, it goes by 2
        due(54, "drawn(5, 0, 3, 0)", x.drawn(5, 0, 3, 0), 2);
        due(54, "drawn(5, 0, 3, 1)", x.drawn(5, 0, 3, 1), 21);
        due(54, "drawn(5, 0, 3, 2)", x.drawn(5, 0, 3, 2), 2);
        due(54, "drawn(5, 0, 1, 2)", x.drawn(5, 0, 1, 2), 0);
        due(54, "drawn(5, 0, 0, 0)", x.drawn(5, 0, 0, 0), 0);
        due(54, "drawn(5, 0, 0, 1)", x.drawn(5, 0, 0, 1), 0);
        due(54, "drawn(5, 0, 3, 3)", x.drawn(5, 0, 3, 3), -2);
        due(54, "drawn(5, 0, 3, -1)", x.drawn(5, 0, 3, -1), -2);
        due(54, "drawn(5, 0, 41, 0)", x.drawn(5, 0, 41, 0), -2);
        due(54, "drawn(5, 0, -1, 0)", x.drawn(5, 0, -1, 0), -2);
        due(54, "drawn(5, 2, 1, 0)", x.drawn(5, 2, 1, 0), -2);
        due(54, "drawn(-1, 0, 1, 0)", x.drawn(-1, 0, 1, 0), -2);
        due(54, "drawn(2000000001, 0, 1, 0)", x.drawn(2000000001, 0, 1, 0), -2);
        due(54, "nothing is done", x.count(8), 0);
        due(54, "drawn lonely", of(LONELY).drawn(5, 0, 40, 0), 2);
        due(54, "drawn lonely", of(LONELY).drawn(5, 0, 40, 1), 0);
        WheelMemory y = of(C);
        // draws of 2 from 5, 6, 7, 8: 1, 0, 0, 0
        due(54, "drawn(5, 0, 1, 0)", y.drawn(5, 0, 1, 0), 2);
        due(54, "drawn(6, 0, 1, 0)", y.drawn(6, 0, 1, 0), 1);
        due(54, "drawn(2000000000, 0, 1, 0)", y.drawn(2000000000, 0, 1, 0), 1);
        // from 0: 0 of 2, of 1, 0 of 2, of 1, 0 of 2: five ROADS of one mile
        due(54, "drawn(0, 0, 5, 1)", y.drawn(0, 0, 5, 1), 5);
        due(55, "luck(5, 4, 0, 1, 1)", y.luck(5, 4, 0, 1, 1), 3);
        due(55, "luck(5, 4, 0, 1, 2)", y.luck(5, 4, 0, 1, 2), 1);
        due(55, "luck(5, 1, 0, 1, 1)", y.luck(5, 1, 0, 1, 1), 0);
        due(55, "luck(5, 20, 0, 2, 0)", y.luck(5, 20, 0, 2, 0), 20);
        due(55, "luck(2000000000, 2, 0, 1, 1)", y.luck(2000000000, 2, 0, 1, 1), 2);
        due(55, "luck(2000000000, 20, 0, 0, 0)", y.luck(2000000000, 20, 0, 0, 0), 20);
        due(55, "luck(2000000001, 1, 0, 1, 1)", y.luck(2000000001, 1, 0, 1, 1), -2);
        due(55, "luck(-1, 1, 0, 1, 1)", y.luck(-1, 1, 0, 1, 1), -2);
        due(55, "luck(5, 0, 0, 1, 1)", y.luck(5, 0, 0, 1, 1), -2);
        due(55, "luck(5, 21, 0, 1, 1)", y.luck(5, 21, 0, 1, 1), -2);
        due(55, "luck(5, 1, 1, 1, 1)", y.luck(5, 1, 1, 1, 1), -2);
        due(55, "luck(5, 1, 0, 41, 1)", y.luck(5, 1, 0, 41, 1), -2);
        due(55, "luck(5, 1, 0, -1, 1)", y.luck(5, 1, 0, -1, 1), -2);
        due(55, "luck(5, 1, 0, 1, 3)", y.luck(5, 1, 0, 1, 3), -2);
        due(55, "luck(5, 1, 0, 1, -1)", y.luck(5, 1, 0, 1, -1), -2);
        due(55, "luck lonely", of(LONELY).luck(5, 7, 0, 40, 2), 7);
    }

    private static void telling() {
        WheelMemory x = of(A);
        due(56, "tell(0, 2, 1)", x.tell(0, 2, 1), 5);
        due(56, "likes(0, 2)", x.likes(0, 2), 1);
        due(56, "tell(0, 2, 0)", x.tell(0, 2, 0), 1);
        due(56, "tell(0, 3, 9)", x.tell(0, 3, 9), 0);
        due(56, "tell(0, 3, 10)", x.tell(0, 3, 10), -2);
        due(56, "tell(0, 3, -1)", x.tell(0, 3, -1), -2);
        due(56, "tell(4, 3, 1)", x.tell(4, 3, 1), -2);
        due(56, "tell(0, 4, 1)", x.tell(0, 4, 1), -2);
        due(57, "hand(0)", x.hand(0), 3);
        due(57, "hand(40)", x.hand(40), 0);
        due(57, "count(5)", x.count(5), 40);
        due(57, "hand(41)", x.hand(41), -2);
        due(57, "hand(-1)", x.hand(-1), -2);
        x.grease(0);
        due(56, "tell(0, 0, 1) behind acts", x.tell(0, 0, 1), -5);
        due(56, "-2 ahead of -5", x.tell(0, 4, 1), -2);
        due(57, "hand(1) behind acts", x.hand(1), -5);
        due(57, "-2 ahead of -5", x.hand(41), -2);
        x.anew();
        due(56, "at first from now on", x.likes(0, 3), 9);
        due(57, "count(5)", x.count(5), 40);
        due(57, "hand(1)", x.hand(1), 40);
        due(56, "tell(0, 0, 1)", x.tell(0, 0, 1), 2);
    }

    private static void counting() {
        WheelMemory x = of(A);
        x.feed(0, 0, 0, 0, 0);
        x.drive(0, -1);
        x.swap(0, 3);
        x.row(1, 0, 0);
        x.row(3, 2, 60);
        x.row(3, 1, 4);
        int[] want = {5, 4, 4, 2, 3, 3, 14, 20, 2, 2};
        for (int what = 0; what < 10; what++) due(58, "count(" + what + ")", x.count(what), want[what]);
        due(58, "count(10)", x.count(10), -1);
        due(58, "count(-1)", x.count(-1), -1);
    }

    private static void images() {
        WheelMemory x = of(A);
        due(60, "back(0) to nothing", x.back(0), -6);
        due(60, "back(3)", x.back(3), -2);
        due(60, "back(-1)", x.back(-1), -2);
        due(59, "image(3)", x.image(3), -2);
        due(59, "image(-1)", x.image(-1), -2);
        x.drive(0, 0);
        x.swap(1, 3);
        due(59, "image(2)", x.image(2), 0);
        row(x, 0, 1);
        x.feed(0, 0, 0, 0, 0);
        x.grease(0);
        x.anew();
        x.tell(0, 0, 9);
        x.hand(40);
        due(60, "back(2)", x.back(2), 0);
        due(60, "count(5)", x.count(5), 3);
        due(60, "count(7)", x.count(7), 20);
        due(60, "count(8)", x.count(8), 2);
        due(60, "count(9)", x.count(9), 1);
        due(60, "cart(0, 1)", x.cart(0, 1), 9);
        due(60, "wheel(0, 2)", x.wheel(0, 2), 8);
        due(60, "undo()", x.undo(), 1);
        due(60, "cart(0, 1)", x.cart(0, 1), 3);
        due(60, "undo()", x.undo(), 0);
        due(60, "wheel(0, 2)", x.wheel(0, 2), 7);
        due(60, "back(2) once more", x.back(2), 0);
        due(60, "count(8)", x.count(8), 2);
        x.end(0);
        x.land();
        due(59, "image(0) of no LAND", x.image(0), 0);
        due(60, "back(2)", x.back(2), 0);
        due(60, "count(6)", x.count(6), 14);
        due(60, "errand(2, 2)", x.errand(2, 2), 200);
        due(60, "back(0)", x.back(0), 0);
        due(60, "count(6)", x.count(6), 0);
        due(60, "cart(0, 0)", x.cart(0, 0), -2);
        due(60, "back(1)", x.back(1), -6);
    }

    private static void slots() {
        WheelMemory x = of(C);
        due(61, "row(4, 0, 1)", x.row(4, 0, 1), -2);
        due(61, "row(-1, 0, 1)", x.row(-1, 0, 1), -2);
        due(61, "row(0, 4, 1)", x.row(0, 4, 1), -2);
        due(61, "row(0, -1, 1)", x.row(0, -1, 1), -2);
        due(61, "row(0, 0, 61)", x.row(0, 0, 61), -2);
        due(61, "row(0, 0, -1)", x.row(0, 0, -1), -3);
        due(61, "row(0, 4, -1)", x.row(0, 4, -1), -2);
        due(61, "count(9)", x.count(9), 0);
        due(61, "row(0, 0, 60)", x.row(0, 0, 60), 0);
        due(61, "all 0", x.goes(0, 0), 60);
        due(61, "row(0, 0, -1)", x.row(0, 0, -1), -3);
        due(61, "the SLOT stays", x.goes(0, 0), 60);
        due(62, "write(0, 59, 1)", x.write(0, 59, 1L), 0);
        due(62, "goes", x.goes(0, 0), 59);
        due(61, "row(0, 1, 3)", x.row(0, 1, 3), 0);
        due(61, "all 0 again", x.goes(0, 0), 3);
        due(62, "write(0, 3, 0)", x.write(0, 3, 0L), -7);
        due(62, "write(0, -1, 0)", x.write(0, -1, 0L), -7);
        due(62, "write(4, 0, 0)", x.write(4, 0, 0L), -2);
        due(62, "write(-1, 0, 0)", x.write(-1, 0, 0L), -2);
        due(62, "write(1, 0, 0)", x.write(1, 0, 0L), -6);
        for (int width = 0; width < 4; width++) {
            x.row(1, width, 1);
            x.write(1, 0, width == 3 ? 1L : (1L << (8 << width)) + 1);
            due(62, "cut to WIDTH " + width, x.ends(1, 0), 2);
            x.write(1, 0, width == 3 ? -1L : (1L << (8 << width)) - 1);
            due(62, "cut to WIDTH " + width + ", NONE", x.ends(1, 0), 1);
            if (width > 0) {
                x.write(1, 0, 257L);
                due(62, "257 of WIDTH " + width, x.ends(1, 0), -2);
            }
        }
        pasting();
    }

    private static void pasting() {
        WheelMemory x = of(C);
        due(63, "paste(0, 0, 4, 0, 0)", x.paste(0, 0, 4, 0, 0), -2);
        due(63, "paste(-1, 0, 0, 0, 0)", x.paste(-1, 0, 0, 0, 0), -2);
        due(63, "paste(0, 0, 1, 0, 0)", x.paste(0, 0, 1, 0, 0), -6);
        row(x, 0, 1, 1, 0, 0, 1);
        due(63, "paste to nothing", x.paste(0, 0, 1, 0, 0), -6);
        due(63, "paste from nothing", x.paste(1, 0, 0, 0, 0), -6);
        x.row(1, 1, 5);
        due(63, "unlike WIDTHS", x.paste(0, 0, 1, 0, 9), -8);
        x.row(1, 0, 5);
        due(63, "beyond", x.paste(0, 1, 1, 0, 5), -7);
        due(63, "beyond", x.paste(0, 0, 1, 1, 5), -7);
        due(63, "below", x.paste(0, -1, 1, 0, 1), -7);
        due(63, "below", x.paste(0, 0, 1, -1, 1), -7);
        due(63, "below", x.paste(0, 0, 1, 0, -1), -7);
        due(63, "far beyond", x.paste(0, 1, 1, 0, 2147483647), -7);
        due(63, "nothing happens", x.ran(1, 0), 5);
        due(63, "none at the end", x.paste(0, 5, 1, 5, 0), 0);
        due(63, "paste(0, 0, 1, 0, 2)", x.paste(0, 0, 1, 0, 2), 0);
        due(63, "1, 1, 0, 0, 0", x.ran(1, 0), 7);
        due(63, "paste(0, 2, 1, 0, 2)", x.paste(0, 2, 1, 0, 2), 0);
        due(63, "0, 0, 0, 0, 0", x.ran(1, 0), 5);
        // its own, one on: as they were, not one drawn along
        row(x, 2, 1, -1, 0, -1);
        due(63, "paste(2, 0, 2, 2, 2)", x.paste(2, 0, 2, 2, 2), 0);
        due(63, "1, -1, 1, -1", x.ran(2, 0), 8);
        row(x, 2, 1, 1, 0, 0);
        due(63, "paste(2, 1, 2, 2, 2)", x.paste(2, 1, 2, 2, 2), 0);
        due(63, "1, 1, 1, 0", x.goes(2, 0), 3);
        row(x, 2, 0, 0, 1, 1);
        due(63, "paste(2, 1, 2, 0, 3)", x.paste(2, 1, 2, 0, 3), 0);
        due(63, "0, 1, 1, 1", x.goes(2, 0), 1);
    }
}
