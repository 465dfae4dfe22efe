import java.util.Set;
import java.util.TreeSet;

/**
 * The edges that the document names, promise by promise: the last input inside a bound and the first outside it, on
 * either side, the least and the greatest int, which refusal is asked ahead of which, ties. Worked out by hand.
 */
public final class EdgesTest {
    private static Script script;

    /** As much of all as there can be; wheel 7 is in no CART. */
    private static final String FULL = "good 26 land places 6 hand 2;"
            + "road 0 to 1 miles 1;road 1 to 2 miles 2;road 2 to 3 miles 3;road 3 to 4 miles 4;"
            + "road 4 to 5 miles 5;road 5 to 0 miles 6;road 0 to 3 miles 7;road 1 to 4 miles 20;"
            + "wheel rim 10 likes 0 1;wheel rim 11 likes 1 2;wheel rim 12 likes 2 3;wheel rim 13 likes 3 4;"
            + "wheel rim 14 likes 4 5;wheel rim 15 likes 5 6;wheel rim 16 likes 6 7;wheel rim 999 likes 7 9;"
            + "cart at 0 wheels 0;cart at 5 wheels 1 2 3 4;cart at 3 wheels 5 6;"
            + "errand 0 to 1 by 1;errand 0 to 2 by 3;errand 1 to 0 by 5;errand 1 to 3 by 200;errand 2 to 2 by 3;errand 2 to 5 by 9;\n";

    /** Three ROADS between two PLACES; what is wanted is done, and miles tell which it was. */
    private static final String OBEYS = "good 6 land places 2 hand 40;road 0 to 1 miles 1;road 0 to 1 miles 10;road 1 to 0 miles 20;"
            + "wheel rim 999;cart at 0 wheels 0;\n";

    public static void main(String[] args) {
        script = new Script(args.length > 0 ? Model::new : WheelMemory::new);
        tape();
        landAndFault();
        whatThereIs();
        turns();
        turnsOfLike();
        runs();
        acts();
        actsUndone();
        rowsWanted();
        wayBounds();
        wayEdges();
        choosing();
        roamBounds();
        roamEdges();
        fitting();
        liking();
        teaching();
        greasing();
        sharing();
        smithing();
        drawing();
        telling();
        images();
        rows();
        widths();
        pasting();
        all();
        System.out.println(script.wrong() == 0 ? "the edges are as told" : script.wrong() + " edges are not as told");
        if (script.wrong() != 0) System.exit(1);
    }

    /** A promise without a row here would be forgotten. */
    private static void all() {
        Set<Integer> left = new TreeSet<>();
        for (int p = 1; p <= 63; p++) left.add(p);
        left.removeAll(script.promises());
        if (!left.isEmpty()) {
            System.out.println("no edges of promises " + left);
            System.exit(1);
        }
    }

    private static void tape() {
        script.play("feed: four bytes of each number, the highest first", """
                1 count(7) = 0
                2 feed(0x6c616e64, 0x20706c61, 0x63657320, 0x34206861, 0x6e642033) = 20
                2 feed(0x393b2020, 0x20202020, 0x20202020, 0x20202020, 0x20202020) = 40
                2 land() = 1 | count(0) = 4 | count(5) = 39
                # a number below 0 is four bytes, too, each 128 or more
                2 feed(MIN, MAX, -1, 0, 1) = 20
                2 land() = -4 | fault(0) = 1 | fault(1) = 0
                """);
        script.play("feed: not more than 1,000", """
                2 *49 feed(0x20202020, 0x20202020, 0x20202020, 0x20202020, 0x20202020)
                2 count(7) = 980
                2 feed(0x20202020, 0x20202020, 0x20202020, 0x20202020, 0x2020203b) = 1000
                2 feed(0, 0, 0, 0, 0) = -1
                2 count(7) = 1000
                # none came: the last byte is still the one that can't stand there
                4 land() = -4
                5 fault(0) = 1 | fault(1) = 999
                3 end(999) = 999
                2 feed(0, 0, 0, 0, 0) = -1 | count(7) = 999
                3 end(981) = 981
                2 feed(0, 0, 0, 0, 0) = -1 | count(7) = 981
                3 end(980) = 980
                2 feed(0, 0, 0, 0, 0) = 1000
                2 feed(0, 0, 0, 0, 0) = -1
                4 land() = -4
                5 fault(1) = 980
                """);
        script.play("end: as many as there are, 0, one more, below 0", """
                3 end(0) = 0 | end(1) = -1 | end(-1) = -1 | end(MAX) = -1 | end(MIN) = -1
                3 count(7) = 0
                feed(0x6c616e64, 0x20706c61, 0x63657320, 0x34206861, 0x6e642033)
                3 end(21) = -1 | end(-1) = -1 | end(MAX) = -1 | end(MIN) = -1 | end(1000) = -1
                3 count(7) = 20
                3 end(20) = 20 | end(19) = 19 | end(20) = -1 | end(19) = 19
                3 end(4) = 4
                # what was behind is gone: the next bytes come behind these four
                2 feed(0x20706c61, 0x63657320, 0x32206861, 0x6e642030, 0x3b202020) = 24
                3 land() = 1 | count(0) = 2 | count(5) = 0
                3 count(7) = 0 | end(1) = -1 | end(0) = 0
                """);
    }

    private static void landAndFault() {
        script.play("land: in place of another, nothing done", FULL + """
                drive(0, -1)
                hand(0)
                good 4 land places 2 hand 1;road 0 to 1 miles 2;wheel rim 3;cart at 1 wheels 0;
                4 count(0) = 2 | count(1) = 1 | count(2) = 1 | count(3) = 1 | count(4) = 0 | count(5) = 1 | count(6) = 4
                4 count(7) = 0 | count(8) = 0
                4 road(1, 0) = -2 | wheel(1, 0) = -2 | cart(1, 0) = -2 | errand(0, 0) = -2 | roads(2) = -2
                4 likes(0, 0) = 0 | wheel(0, 0) = 3 | cart(0, 0) = 1 | cart(0, 2) = 0 | cart(0, 1) = 1
                19 undo() = -5
                """);
        script.play("land: 0 LINES, there is none then", FULL + """
                image(1)
                good 0
                4 count(0) = 0 | count(1) = 0 | count(2) = 0 | count(3) = 0 | count(4) = 0 | count(5) = 0 | count(6) = 0
                4 undo() = -2 | roads(0) = -2 | dues() = -2
                5 fault(0) = 0 | fault(1) = -1
                # IMAGES are no LAND: they stay
                60 back(1) = 0 | count(6) = 26
                tape \\n  \\n
                4 land() = 0 | count(6) = 0 | count(7) = 0
                """);
        script.play("land: a FAULT, all stays", FULL + """
                drive(0, -1)
                fault 2 land places 2 hand 1;road 0 to 1 miles 2;wheel rim ^3000;cart at 1 wheels 0;
                4 count(0) = 6 | count(1) = 8 | count(2) = 8 | count(3) = 3 | count(4) = 6 | count(5) = 2 | count(6) = 26
                4 count(7) = 75 | count(8) = 1 | cart(0, 2) = 1 | cart(0, 0) = 1
                4 land() = -4 | count(7) = 75
                # the TAPE stays as well: cut to what is good, it is a LAND
                3 end(41) = 41
                4 land() = 2 | count(6) = 2 | count(8) = 0
                """);
        script.play("fault ahead of any", """
                5 fault(0) = 0 | fault(1) = -1
                5 bad fault(0) : -1 2 = -1
                """);
    }

    private static void whatThereIs() {
        script.play("least and greatest", FULL + """
                6 road(0, 0) = 0 | road(0, 1) = 1 | road(0, 2) = 1 | road(7, 0) = 1 | road(7, 1) = 4 | road(7, 2) = 20
                6 bad road(7, 2) : -1 8 / -1 3 = -2
                7 likes(0, 0) = 1 | likes(0, 7) = 0 | likes(7, 0) = 0 | likes(7, 7) = 9
                7 bad likes(7, 7) : -1 8 / -1 8 = -2
                8 wheel(0, 0) = 10 | wheel(0, 1) = 0 | wheel(0, 2) = 1 | wheel(7, 0) = 999 | wheel(7, 1) = -1 | wheel(7, 2) = 9
                8 bad wheel(7, 0) : -1 8 / -1 3 = -2
                9 cart(0, 0) = 0 | cart(0, 1) = 1 | cart(0, 2) = 0 | cart(2, 0) = 3 | cart(2, 1) = 96 | cart(2, 2) = 0
                9 bad cart(2, 0) : -1 3 / -1 3 = -2
                10 errand(0, 0) = 0 | errand(0, 1) = 1 | errand(0, 2) = 1 | errand(5, 0) = 2 | errand(5, 1) = 5 | errand(5, 2) = 9
                10 bad errand(5, 2) : -1 6 / -1 3 = -2
                11 roads(0) = 97 | roads(1) = 131 | roads(2) = 6 | roads(3) = 76 | roads(4) = 152 | roads(5) = 48
                11 bad roads(5) : -1 6 = -2
                58 count(0) = 6 | count(1) = 8 | count(2) = 8 | count(3) = 3 | count(4) = 6 | count(5) = 2 | count(6) = 26
                58 bad count(9) : -1 10 = -1
                """);
        script.play("numbers that would be like ones if cut", FULL + """
                6 road(256, 0) = -2 | road(65536, 0) = -2 | road(0, 256) = -2
                7 likes(8, 0) = -2 | likes(0, 8) = -2 | likes(-8, 64) = -2 | likes(1, -8) = -2 | likes(32, 0) = -2
                11 roads(32) = -2 | roads(64) = -2 | roads(-32) = -2
                12 pull(32, 0) = -2 | pull(0, 32) = -2
                13 takes(0, 32) = -2 | takes(0, 37) = -2
                """);
    }

    private static void turns() {
        script.play("bounds of what TURNS", FULL + """
                12 pull(0, 0) = 1 | pull(0, 7) = 0 | pull(2, 0) = 0 | pull(2, 6) = 7 | pull(1, 4) = 5
                12 bad pull(2, 7) : -1 3 / -1 8 = -2
                13 takes(0, -1) = 0 | takes(0, 0) = 0 | takes(0, 5) = 5 | takes(0, 6) = 6 | takes(1, 5) = 4 | takes(2, 2) = 6
                # 7 and 0 are ROADS, but not of the PLACE
                13 bad takes(2, 6) : -1 3 / -2 8 7 0 = -2
                14 aside(0) = 0 | aside(1) = 32 | aside(2) = 12
                14 bad aside(2) : -1 3 = -2
                15 argue(0, 0) = 0 | argue(0, 5) = 1 | argue(1, 5) = 5 | argue(2, 2) = 7 | argue(2, 3) = 7 | argue(2, 6) = 0
                15 bad argue(2, 2) : -1 3 / -1 -2 8 7 0 = -2
                """);
        script.play("a PLACE without ROADS", """
                good 4 land places 3 hand 40;road 0 to 1 miles 3;wheel rim 9 likes 0 4;cart at 2 wheels 0;
                11 roads(2) = 0
                12 pull(0, 0) = 4
                13 takes(0, -1) = -1 | takes(0, 0) = -2 | takes(0, 1) = -2 | takes(0, -2) = -2 | takes(1, -1) = -2
                14 aside(0) = 0
                15 argue(0, 0) = -2 | argue(0, -1) = -2
                16 drive(0, -1) = -5 | drive(0, 0) = -2 | drive(1, -1) = -2
                16 count(8) = 0
                47 blind(0, 0) = -2 | blind(0, -1) = -2
                48 blinds(0, 0) = -2 | blinds(0, -1) = -2
                """);
        script.play("four WHEELS that like nine are as much as can be argued with: 36", """
                good 8 land places 2 hand 35;road 0 to 1 miles 1;road 0 to 1 miles 2;wheel rim 9 likes 0 9;wheel rim 9 likes 0 9;wheel rim 9 likes 0 9;wheel rim 9 likes 0 9;cart at 1 wheels 3 2 1 0;
                12 pull(0, 0) = 36 | pull(0, 1) = 0
                15 argue(0, 1) = 36 | argue(0, 0) = 0
                13 takes(0, 1) = 0
                14 aside(0) = 2
                57 hand(36) = 35
                13 takes(0, 1) = 1
                14 aside(0) = 0
                15 argue(0, 1) = 36
                """);
    }

    private static void turnsOfLike() {
        String three = "road 0 to 1 miles 1;road 1 to 0 miles 2;road 0 to 1 miles 3;wheel rim 99 likes 0 5 likes 1 5 likes 2 3;cart at 1 wheels 0;\n";
        script.play("of like ones the one wanted, else the least; hand 0", "good 6 land places 2 hand 0;" + three + """
                13 takes(0, -1) = 0 | takes(0, 0) = 0 | takes(0, 1) = 1 | takes(0, 2) = 0
                14 aside(0) = 4
                15 argue(0, 0) = 0 | argue(0, 1) = 0 | argue(0, 2) = 2
                57 hand(1) = 0
                13 takes(0, -1) = 0 | takes(0, 0) = 0 | takes(0, 1) = 1 | takes(0, 2) = 0
                57 hand(2) = 1
                13 takes(0, -1) = 0 | takes(0, 0) = 0 | takes(0, 1) = 1 | takes(0, 2) = 2
                57 hand(40) = 2
                13 takes(0, -1) = 0 | takes(0, 0) = 0 | takes(0, 1) = 1 | takes(0, 2) = 2
                14 aside(0) = 0
                """);
        script.play("all are liked by 0: the least", """
                good 8 land places 3 hand 0;road 1 to 2 miles 9;road 0 to 1 miles 9;road 0 to 2 miles 1;road 1 to 0 miles 1;wheel rim 9;cart at 0 wheels 0;errand 0 to 1 by 9;
                13 takes(0, -1) = 1 | takes(0, 1) = 1 | takes(0, 2) = 2 | takes(0, 3) = 3 | takes(0, 0) = -2
                14 aside(0) = 0
                """);
        script.play("eight ROADS of one PLACE", """
                good 11 land places 2 hand 3;road 0 to 1 miles 1;road 0 to 1 miles 1;road 0 to 1 miles 1;road 0 to 1 miles 1;road 0 to 1 miles 1;road 0 to 1 miles 1;road 0 to 1 miles 1;road 0 to 1 miles 1;wheel rim 9 likes 7 9 likes 3 6 likes 4 5 likes 0 9;cart at 0 wheels 0;
                11 roads(0) = 255 | roads(1) = 255
                13 takes(0, -1) = 0 | takes(0, 7) = 7 | takes(0, 3) = 3 | takes(0, 4) = 0 | takes(0, 1) = 0
                14 aside(0) = 118
                15 argue(0, 7) = 0 | argue(0, 3) = 3 | argue(0, 4) = 4 | argue(0, 1) = 9
                """);
    }

    private static void runs() {
        script.play("9 at most", """
                good 4 land places 2 hand 0;road 0 to 1 miles 1;wheel rim 999 likes 0 7;cart at 0 wheels 0;
                16 drive(0, 0) = 1 | likes(0, 0) = 8 | drive(0, 0) = 0 | likes(0, 0) = 9 | drive(0, 0) = 1 | likes(0, 0) = 9
                16 wheel(0, 0) = 996 | cart(0, 2) = 3
                """);
        script.play("a rim of just the miles, then below 0: it likes no ROAD any more, nor the one that it runs", """
                good 5 land places 2 hand 40;road 0 to 1 miles 20;road 0 to 1 miles 1;wheel rim 20 likes 1 5;cart at 0 wheels 0;
                16 drive(0, 0) = 1 | wheel(0, 0) = 0 | likes(0, 0) = 1 | likes(0, 1) = 5 | wheel(0, 2) = 6
                16 drive(0, 1) = 0 | wheel(0, 0) = 0 | likes(0, 0) = 0 | likes(0, 1) = 0 | wheel(0, 2) = 0
                16 drive(0, 1) = 1 | wheel(0, 0) = 0 | likes(0, 1) = 0 | cart(0, 2) = 22
                """);
        script.play("one mile less than the rim, one more", """
                good 6 land places 2 hand 0;road 0 to 1 miles 5;wheel rim 6 likes 0 1;wheel rim 5 likes 0 1;wheel rim 4 likes 0 1;cart at 0 wheels 0 1 2;
                16 drive(0, -1) = 1
                16 wheel(0, 0) = 1 | wheel(1, 0) = 0 | wheel(2, 0) = 0
                16 likes(0, 0) = 2 | likes(1, 0) = 2 | likes(2, 0) = 0
                16 drive(0, -1) = 0
                16 wheel(0, 0) = 0 | wheel(1, 0) = 0 | wheel(2, 0) = 0
                16 likes(0, 0) = 0 | likes(1, 0) = 0 | likes(2, 0) = 0
                """);
        script.play("a rim of 0 that does not run keeps what it likes", """
                good 5 land places 2 hand 0;road 0 to 1 miles 1;wheel rim 0 likes 0 3;wheel rim 1;cart at 0 wheels 1;
                drive(0, 0)
                16 likes(0, 0) = 3 | likes(1, 0) = 1
                """);
    }

    private static void acts() {
        script.play("bounds of acts", FULL + """
                16 bad drive(2, 6) : -1 3 / -2 8 7 0 = -2
                17 bad swap(7, 0) : -1 8 0 / -1 8 7 = -2
                18 bad grease(7) : -1 8 = -2
                16 count(8) = 0
                16 drive(0, 0) = 1 | drive(2, 6) = 0 | drive(1, -1) = 4
                17 swap(7, 0) = 0 | cart(0, 1) = 128 | wheel(0, 1) = -1 | wheel(7, 1) = 0
                17 swap(7, 0) = 0 | cart(0, 1) = 1 | wheel(7, 1) = -1
                18 grease(7) = 9 | grease(0) = 2
                16 count(8) = 7
                """);
        script.play("swap: two that have seats, one, none, of one CART", """
                good 6 land places 2 hand 0;wheel rim 1;wheel rim 2;wheel rim 3;wheel rim 4;cart at 0 wheels 0 1;
                17 swap(0, 1) = 0 | cart(0, 1) = 3 | count(8) = 1
                17 swap(2, 3) = 0 | cart(0, 1) = 3 | wheel(2, 1) = -1 | wheel(3, 1) = -1 | count(8) = 2
                17 swap(3, 0) = 0 | cart(0, 1) = 10 | wheel(0, 1) = -1 | wheel(3, 1) = 0 | count(8) = 3
                17 swap(0, 0) = -2 | swap(3, 3) = -2 | swap(4, 4) = -2 | swap(-1, -1) = -2 | count(8) = 3
                # a wheel takes its rim and likes along
                17 wheel(3, 0) = 4
                """);
        script.play("40 drives, and no 41st act", OBEYS + """
                16 *20 drive(0, 0)
                16 *19 drive(0, 1)
                16 count(8) = 39 | drive(0, 2) = 0 | count(8) = 40
                16 drive(0, 0) = -5 | drive(0, -1) = -5
                16 drive(0, 3) = -2 | drive(1, 0) = -2 | drive(0, -2) = -2
                18 grease(0) = -5 | grease(1) = -2 | grease(-1) = -2
                17 swap(0, 0) = -2 | swap(0, 1) = -2
                16 count(8) = 40 | cart(0, 0) = 0 | cart(0, 2) = 230 | wheel(0, 0) = 769
                19 undo() = 39 | cart(0, 0) = 1 | cart(0, 2) = 210
                16 drive(0, -1) = 0 | count(8) = 40 | cart(0, 2) = 211
                20 anew() = 40 | count(8) = 0 | cart(0, 2) = 0
                """);
        script.play("40 swaps, and no 41st act", """
                good 6 land places 3 hand 0;road 0 to 1 miles 1;wheel rim 9 likes 0 3;wheel rim 8;cart at 0 wheels 0;cart at 2 wheels 1;
                17 *40 swap(0, 1) = 0
                17 swap(0, 1) = -5 | swap(1, 0) = -5 | swap(0, 2) = -2 | swap(2, 0) = -2 | swap(1, 1) = -2
                17 cart(0, 1) = 1 | cart(1, 1) = 2 | count(8) = 40
                16 drive(0, 0) = -5 | drive(1, -1) = -5 | drive(1, 0) = -2
                18 grease(0) = -5
                19 undo() = 39 | cart(0, 1) = 2
                18 grease(0) = 3 | grease(1) = -5 | count(8) = 40
                """);
        script.play("40 greased, and no 41st act", OBEYS + """
                18 *40 grease(0) = 0
                18 grease(0) = -5 | grease(1) = -2 | grease(MIN) = -2 | grease(MAX) = -2
                16 drive(0, 0) = -5
                18 count(8) = 40
                20 anew() = 40 | anew() = 0
                """);
    }

    private static void actsUndone() {
        script.play("undo: none, one, back to none", OBEYS + """
                19 undo() = -5 | undo() = -5 | count(8) = 0
                20 anew() = 0 | anew() = 0
                drive(0, 2)
                19 undo() = 0 | undo() = -5
                19 cart(0, 0) = 0 | cart(0, 2) = 0 | wheel(0, 0) = 999 | likes(0, 2) = 0
                drive(0, 2)
                20 anew() = 1 | anew() = 0
                19 undo() = -5
                """);
        script.play("a refused act is none that is taken back", FULL + """
                drive(0, 0)
                drive(0, 3)
                swap(0, 0)
                grease(8)
                19 undo() = 0 | cart(0, 0) = 0 | undo() = -5
                """);
        script.play("40 taken back one by one", OBEYS + """
                *40 drive(0, 2)
                wheel(0, 0)
                19 wheel(0, 0) = 199 | undo() = 39 | wheel(0, 0) = 219 | likes(0, 2) = 9
                *29 undo()
                19 count(8) = 10 | likes(0, 2) = 9 | undo() = 9 | likes(0, 2) = 9 | undo() = 8 | likes(0, 2) = 8
                *7 undo()
                19 likes(0, 2) = 1 | undo() = 0 | likes(0, 2) = 0 | undo() = -5 | count(8) = 0
                """);
        script.play("no LAND", """
                19 undo() = -2
                20 anew() = -2
                good 1 land places 2 hand 0;
                19 undo() = -5
                20 anew() = 0
                good 0
                19 undo() = -2
                20 anew() = -2
                """);
    }

    private static void rowsWanted() {
        script.play("which refusal is asked ahead of which", FULL + """
                21 goes(0, 0) = -6 | goes(3, 2) = -6 | goes(4, 0) = -2 | goes(-1, 0) = -2 | goes(0, 3) = -2 | goes(0, -1) = -2
                22 ends(0, 0) = -6 | ends(0, 3) = -2 | ends(4, 0) = -2
                23 ran(0, 0) = -6 | ran(0, 3) = -2 | ran(4, 0) = -2
                24 astray(0, 0) = -6 | astray(0, 3) = -2 | astray(4, 0) = -2
                25 worn(0, 0) = -6 | worn(0, 3) = -2 | worn(4, 0) = -2
                row(3, 0, 1)
                21 bad goes(3, 2) : -1 4 / -1 3 = -2
                22 bad ends(3, 2) : -1 4 / -1 3 = -2
                23 bad ran(3, 2) : -1 4 / -1 3 = -2
                24 bad astray(3, 2) : -1 4 / -1 3 = -2
                25 bad worn(3, 2) : -1 4 / -1 3 = -2
                # 0 is a ROAD, but not of the PLACE of cart 2
                21 goes(3, 2) = 0 | goes(3, 0) = 1
                22 ends(3, 2) = 3 | ends(3, 0) = 1
                23 ran(3, 2) = 0 | ran(3, 0) = 1
                24 astray(3, 2) = -1
                25 worn(3, 2) = -1
                """);
        script.play("a number is no ROAD, not NONE, wherever it stands", FULL + """
                row(0, 0, 3)
                21 goes(0, 0) = 3
                write(0, 2, 7)
                21 goes(0, 0) = 2
                write(0, 2, 8)
                21 goes(0, 0) = -2
                22 ends(0, 0) = -2
                23 ran(0, 0) = -2
                24 astray(0, 0) = -2
                25 worn(0, 0) = -2
                write(0, 2, -1)
                21 goes(0, 0) = 3
                write(0, 2, -2)
                21 goes(0, 0) = -2
                # even behind one by which it can't go on
                write(0, 0, 7)
                21 goes(0, 0) = -2
                write(0, 2, 7)
                21 goes(0, 0) = 0
                write(0, 0, 127)
                21 goes(0, 0) = -2
                write(0, 0, -128)
                21 goes(0, 0) = -2
                """);
        script.play("rows of 0 and of 60 numbers", OBEYS + """
                row(0, 0, 0)
                21 goes(0, 0) = 0
                22 ends(0, 0) = 0
                23 ran(0, 0) = 0
                24 astray(0, 0) = -1
                25 worn(0, 0) = -1
                row(0, 0, 60)
                21 goes(0, 0) = 60
                22 ends(0, 0) = 0
                23 ran(0, 0) = 60
                24 astray(0, 0) = -1
                25 worn(0, 0) = -1
                write(0, 59, 2)
                23 ran(0, 0) = 79
                # there were 40 acts: these are none
                *40 drive(0, 2)
                21 goes(0, 0) = 60
                23 ran(0, 0) = 79
                # 199 of its rim are left
                25 worn(0, 0) = -1
                22 ends(0, 0) = 0 | count(8) = 40 | cart(0, 0) = 0 | wheel(0, 0) = 199
                """);
        script.play("the first in which it goes astray: the first of all, the last, none", """
                good 6 land places 2 hand 2;road 0 to 1 miles 1;road 0 to 1 miles 10;road 1 to 0 miles 20;wheel rim 999 likes 0 1;cart at 0 wheels 0;
                row(0, 1, 3)
                24 astray(0, 0) = -1
                write(0, 0, 1)
                # 0 + 2 are more than 1
                24 astray(0, 0) = -1
                write(0, 0, 0)
                write(0, 1, 0)
                write(0, 2, 1)
                # 0 is liked by 3 then
                24 astray(0, 0) = 2
                22 ends(0, 0) = 1
                23 ran(0, 0) = 3
                write(0, 1, 1)
                # 0 is liked by 2 then: alike, the one wanted
                24 astray(0, 0) = -1
                tell(0, 0, 4)
                24 astray(0, 0) = 1
                write(0, 0, 2)
                24 astray(0, 0) = 0
                # where none is wanted it can't go astray
                write(0, 0, -1)
                write(0, 1, -1)
                write(0, 2, -1)
                24 astray(0, 0) = -1
                """);
        script.play("the first behind which a WHEEL has no rim left", """
                good 9 land places 2 hand 40;road 0 to 1 miles 5;wheel rim 15;wheel rim 16;wheel rim 0;wheel rim 14;cart at 0 wheels 0 1;cart at 0 wheels 2;cart at 1 wheels 3;
                row(0, 0, 3)
                25 worn(0, 0) = 2 | worn(0, 1) = 0 | worn(0, 2) = 2
                row(0, 0, 2)
                25 worn(0, 0) = -1 | worn(0, 1) = 0 | worn(0, 2) = -1
                row(0, 0, 0)
                25 worn(0, 1) = -1
                """);
        script.play("as far as its PLACE has ROADS and each is one of it", """
                good 7 land places 4 hand 40;road 0 to 1 miles 1;road 1 to 2 miles 2;wheel rim 9;wheel rim 9;cart at 0 wheels 0;cart at 3 wheels 1;
                row(0, 0, 4)
                write(0, 1, 1)
                write(0, 2, 1)
                # 0, 1, 1, 0
                21 goes(0, 0) = 4 | goes(0, 1) = 0
                22 ends(0, 0) = 0 | ends(0, 1) = 3
                write(0, 2, 0)
                # 0, 1, 0: not of its PLACE
                21 goes(0, 0) = 2
                22 ends(0, 0) = 2
                23 ran(0, 0) = 3
                row(0, 0, 2)
                write(0, 0, -1)
                21 goes(0, 1) = 0
                22 ends(0, 1) = 3
                24 astray(0, 1) = -1
                """);
    }

    private static void wayBounds() {
        script.play("bounds of WAYS", FULL + """
                26 way(0, 0) = 0 | way(0, 1) = 1 | way(0, 2) = 3 | way(0, 3) = 6 | way(0, 4) = 10 | way(0, 5) = 6
                26 way(1, 0) = -1 | way(1, 1) = 35 | way(1, 2) = -1 | way(1, 3) = 19 | way(1, 4) = 5 | way(1, 5) = 0
                26 way(2, 0) = 7 | way(2, 1) = 22 | way(2, 2) = -1 | way(2, 3) = 0 | way(2, 4) = -1 | way(2, 5) = 27
                26 bad way(2, 5) : -1 3 / -1 6 = -2
                27 wants(0, 4, 0) = 0 | wants(0, 4, 1) = 1 | wants(0, 4, 2) = 2 | wants(0, 4, 3) = 3
                27 wants(0, 4, 4) = -1 | wants(0, 4, -1) = -1 | wants(0, 4, MAX) = -1 | wants(0, 4, MIN) = -1
                27 wants(0, 0, 0) = -1 | wants(1, 0, 0) = -1
                27 bad wants(0, 4, 0) : -1 3 / -1 6 / - = -2
                27 wants(3, 4, -1) = -2 | wants(0, 6, 9) = -2
                28 reach(0) = 63 | reach(1) = 58 | reach(2) = 43
                28 bad reach(2) : -1 3 = -2
                29 far(0, 1) = 1 | far(0, 2) = 3 | far(0, 3) = 6 | far(0, 4) = 10 | far(0, 5) = 6 | far(5, 0) = 6 | far(4, 1) = 9
                29 far(0, 0) = 0 | far(5, 5) = 0
                29 bad far(5, 0) : -1 6 / -1 6 = -2
                29 bad far(5, 5) : -1 6 / -1 6 = -2
                29 far(6, 6) = -2 | far(-1, -1) = -2
                30 dues() = 11
                """);
        script.play("by so many miles, and by one less", """
                good 11 land places 6 hand 40;road 0 to 1 miles 20;road 1 to 2 miles 20;road 2 to 3 miles 20;road 3 to 4 miles 20;wheel rim 999;cart at 0 wheels 0;errand 0 to 4 by 80;errand 0 to 4 by 79;errand 0 to 0 by 1;errand 0 to 5 by 200;
                26 way(0, 4) = 80 | way(0, 5) = -1
                30 dues() = 5
                drive(0, 0)
                # from now on: 60 miles more, and none is home any more by 1
                26 way(0, 4) = 60 | way(0, 0) = 20
                30 dues() = 3
                """);
        script.play("far, wheels and their whims aside", """
                good 9 land places 6 hand 0;road 0 to 1 miles 20;road 1 to 2 miles 20;road 2 to 3 miles 20;road 3 to 4 miles 20;road 4 to 5 miles 20;road 0 to 1 miles 3;wheel rim 9 likes 0 9;cart at 0 wheels 0;
                29 far(0, 5) = 83 | far(5, 0) = 83 | far(0, 1) = 3
                26 way(0, 1) = 20 | way(0, 5) = -1
                """);
    }

    private static void wayEdges() {
        script.play("0 .. 4 ROADS", """
                good 8 land places 6 hand 40;road 0 to 1 miles 1;road 1 to 2 miles 1;road 2 to 3 miles 1;road 3 to 4 miles 1;road 4 to 5 miles 1;wheel rim 999;cart at 0 wheels 0;
                26 way(0, 0) = 0 | way(0, 1) = 1 | way(0, 4) = 4 | way(0, 5) = -1
                27 wants(0, 4, 3) = 3 | wants(0, 4, 4) = -1 | wants(0, 5, 0) = -1 | wants(0, 0, 0) = -1
                28 reach(0) = 31
                29 far(0, 5) = 5
                drive(0, 0)
                26 way(0, 5) = 4
                28 reach(0) = 63
                """);
        script.play("the least miles ahead of the fewest", """
                good 6 land places 3 hand 40;road 0 to 2 miles 20;road 0 to 1 miles 1;road 1 to 2 miles 18;wheel rim 999;cart at 0 wheels 0;
                26 way(0, 2) = 19
                27 wants(0, 2, 0) = 1 | wants(0, 2, 1) = 2 | wants(0, 2, 2) = -1
                """);
        script.play("the fewest of like miles, ahead of the least row", """
                good 6 land places 3 hand 40;road 0 to 1 miles 1;road 1 to 2 miles 18;road 0 to 2 miles 19;wheel rim 999;cart at 0 wheels 0;
                26 way(0, 2) = 19
                27 wants(0, 2, 0) = 2 | wants(0, 2, 1) = -1
                """);
        script.play("the least row of like ones: first numbers first", """
                good 8 land places 4 hand 40;road 0 to 1 miles 2;road 0 to 2 miles 1;road 2 to 3 miles 2;road 1 to 3 miles 1;road 1 to 3 miles 1;wheel rim 999;cart at 0 wheels 0;
                26 way(0, 3) = 3
                27 wants(0, 3, 0) = 0 | wants(0, 3, 1) = 3 | wants(0, 3, 2) = -1
                """);
        script.play("a ROAD wanted by which it does not go may be the least", """
                good 6 land places 2 hand 0;road 0 to 1 miles 5;road 0 to 1 miles 3;road 0 to 1 miles 4;wheel rim 999 likes 2 9;cart at 0 wheels 0;
                26 way(0, 1) = 4
                27 wants(0, 1, 0) = 0
                57 hand(8) = 0
                26 way(0, 1) = 4
                57 hand(9) = 8
                26 way(0, 1) = 3
                27 wants(0, 1, 0) = 1
                """);
        script.play("of three ROADS the first leads to the third, the second to itself", """
                good 6 land places 2 hand 8;road 0 to 1 miles 1;road 0 to 1 miles 3;road 0 to 1 miles 4;wheel rim 999 likes 1 1 likes 2 9;cart at 0 wheels 0;
                13 takes(0, 0) = 2 | takes(0, 1) = 1 | takes(0, 2) = 2
                26 way(0, 1) = 3
                27 wants(0, 1, 0) = 1 | wants(0, 1, 1) = -1
                """);
        script.play("what is learned and worn on the WAY counts", """
                good 5 land places 3 hand 0;road 0 to 1 miles 3;road 0 to 2 miles 1;wheel rim 8 likes 0 5;cart at 0 wheels 0;
                # by 0 three times: worn, but in 1; a fourth time back to 0; a fifth would be needed
                26 way(0, 2) = -1
                28 reach(0) = 3
                good 5 land places 3 hand 0;road 0 to 1 miles 3;road 0 to 2 miles 1;wheel rim 5 likes 0 5;cart at 0 wheels 0;
                26 way(0, 2) = 7
                28 reach(0) = 7
                """);
    }

    private static void choosing() {
        script.play("bounds of a choice", FULL + """
                31 choose(0, 0) = 0 | choose(0, 4) = 10 | choose(2, 2) = 3 | choose(1, 0) = 6
                32 chosen(0, 0) = 1 | chosen(0, 4) = 1 | chosen(2, 2) = 160 | chosen(1, 0) = 142
                31 bad choose(2, 5) : -1 3 / -1 6 = -2
                32 bad chosen(2, 5) : -1 3 / -1 6 = -2
                """);
        script.play("four of eight, all alike: the least set", """
                good 11 land places 2 hand 0;road 0 to 1 miles 7;wheel rim 9;wheel rim 9;wheel rim 9;wheel rim 9;wheel rim 9;wheel rim 9;wheel rim 9;wheel rim 9;cart at 0 wheels 7 6 5 4;
                31 choose(0, 1) = 7
                32 chosen(0, 1) = 15
                9 cart(0, 1) = 240
                """);
        script.play("only its own and those in no CART", """
                good 10 land places 3 hand 0;road 0 to 1 miles 7;road 0 to 1 miles 1;road 0 to 1 miles 2;wheel rim 9 likes 0 9;wheel rim 9 likes 1 9;wheel rim 9 likes 2 9;cart at 0 wheels 0;cart at 0 wheels 1;errand 0 to 1 by 1;
                26 way(0, 1) = 7
                31 choose(0, 1) = 2 | choose(1, 1) = 1 | choose(0, 2) = -1
                32 chosen(0, 1) = 4 | chosen(1, 1) = 2 | chosen(0, 2) = -1
                swap(0, 1)
                31 choose(0, 1) = 1
                32 chosen(0, 1) = 2
                """);
        script.play("the first WHEEL is left, the first WHEEL is taken", """
                good 7 land places 2 hand 0;road 0 to 1 miles 9;road 0 to 1 miles 2;wheel rim 9 likes 0 9;wheel rim 9 likes 1 5;cart at 0 wheels 0;errand 0 to 1 by 2;
                26 way(0, 1) = 9
                31 choose(0, 1) = 2
                32 chosen(0, 1) = 2
                swap(0, 1)
                26 way(0, 1) = 2
                31 choose(0, 1) = 2
                32 chosen(0, 1) = 2
                good 6 land places 2 hand 0;road 0 to 1 miles 9;road 0 to 1 miles 2;wheel rim 9 likes 1 9;wheel rim 9 likes 0 5;cart at 0 wheels 1;
                26 way(0, 1) = 9
                31 choose(0, 1) = 2
                32 chosen(0, 1) = 1
                """);
        script.play("no WHEEL is free", """
                good 6 land places 3 hand 0;road 0 to 1 miles 7;road 0 to 2 miles 1;wheel rim 9 likes 0 9;wheel rim 9 likes 1 9;cart at 0 wheels 1 0;
                31 choose(0, 1) = 7 | choose(0, 0) = 0
                32 chosen(0, 1) = 3 | chosen(0, 0) = 3
                """);
    }

    private static void roamBounds() {
        script.play("bounds of roaming", FULL + """
                33 roams(0, 0) = 0 | roams(0, 1) = 1 | roams(0, 39) = 1 | roams(0, 40) = 0 | roams(2, 2) = 3 | roams(2, 3) = 0 | roams(2, 40) = 1
                33 bad roams(2, 40) : -1 3 / -1 41 = -2
                34 circle(0) = 2 | circle(1) = 2 | circle(2) = 2
                34 bad circle(2) : -1 3 = -2
                35 haunts(0) = 0 | haunts(1) = 1 | haunts(2) = 0
                35 bad haunts(2) : -1 3 = -2
                36 meet(0, 0) = 0 | meet(0, 1) = 1 | meet(0, 2) = 1 | meet(0, 3) = 2 | meet(0, 4) = 1 | meet(0, 5) = 2
                36 bad meet(2, 5) : -1 3 / -1 6 = -2
                37 met(0, 0) = 0 | met(0, 1) = 1 | met(0, 2) = 1 | met(0, 3) = 0 | met(0, 4) = 1 | met(0, 5) = 0
                37 bad met(2, 5) : -1 3 / -1 6 = -2
                33 count(8) = 0 | cart(0, 0) = 0
                """);
    }

    private static void roamEdges() {
        script.play("it does not go", """
                good 5 land places 3 hand 0;road 0 to 1 miles 1;wheel rim 9;cart at 2 wheels 0;errand 0 to 2 by 1;
                33 roams(0, 0) = 2 | roams(0, 40) = 2 | roams(0, 41) = -2
                34 circle(0) = -1
                35 haunts(0) = 2
                36 meet(0, 2) = 0 | meet(0, 0) = -1 | meet(0, 1) = -1 | meet(0, 3) = -2
                37 met(0, 2) = 2 | met(0, 0) = -1 | met(0, 1) = -1 | met(0, 3) = -2
                """);
        script.play("a ring of six: worn by the first, it goes by the least of each PLACE", """
                good 9 land places 6 hand 0;road 5 to 0 miles 1;road 4 to 5 miles 1;road 3 to 4 miles 1;road 2 to 3 miles 1;road 1 to 2 miles 1;road 0 to 1 miles 1;wheel rim 0 likes 5 1;cart at 0 wheels 0;
                34 circle(0) = 6
                33 roams(0, 1) = 1 | roams(0, 5) = 5 | roams(0, 6) = 0 | roams(0, 7) = 5 | roams(0, 8) = 0
                # 0, 6, 8, .. 40 in 0; 5, 7, .. 39 in 5
                35 haunts(0) = 0
                # one from 5 could be in 0 behind one, but it is in 1 then; they meet half way round
                36 meet(0, 5) = 3 | meet(0, 1) = 1 | meet(0, 3) = 2
                37 met(0, 5) = 3 | met(0, 1) = 1 | met(0, 3) = 2
                """);
        script.play("one who follows by each ROAD, from either end", """
                good 8 land places 6 hand 0;road 0 to 1 miles 1;road 1 to 2 miles 1;road 2 to 3 miles 1;road 3 to 4 miles 1;road 4 to 5 miles 1;wheel rim 999 likes 4 9;cart at 5 wheels 0;
                # it is in 5 behind 0, 2, 4 and in 4 behind 1, 3, 5
                36 meet(0, 0) = 5 | meet(0, 1) = 3 | meet(0, 2) = 3 | meet(0, 3) = 1 | meet(0, 4) = 1 | meet(0, 5) = 0
                37 met(0, 0) = 4 | met(0, 1) = 4 | met(0, 2) = 4 | met(0, 3) = 4 | met(0, 4) = 4 | met(0, 5) = 5
                good 8 land places 6 hand 0;road 0 to 1 miles 1;road 1 to 2 miles 1;road 2 to 3 miles 1;road 3 to 4 miles 1;road 4 to 5 miles 1;wheel rim 999 likes 0 9;cart at 1 wheels 0;
                # in 1 behind 0, 2, 4 and in 0 behind 1, 3, 5
                36 meet(0, 5) = 4 | meet(0, 4) = 4 | meet(0, 3) = 2 | meet(0, 2) = 2 | meet(0, 0) = 1
                37 met(0, 5) = 1 | met(0, 4) = 1 | met(0, 3) = 1 | met(0, 2) = 1 | met(0, 0) = 0
                """);
        script.play("most often: the least of several", """
                good 4 land places 2 hand 0;road 0 to 1 miles 1;wheel rim 9;cart at 1 wheels 0;
                # 41 times: 21 in 1, 20 in 0
                35 haunts(0) = 1
                drive(0, -1)
                35 haunts(0) = 0
                """);
        script.play("like often: 1, 3, .. 39 in 1 and 2, 4, .. 40 in 0", """
                good 5 land places 3 hand 0;road 0 to 1 miles 1;road 1 to 2 miles 1;wheel rim 0;cart at 2 wheels 0;
                33 roams(0, 1) = 1 | roams(0, 2) = 0 | roams(0, 39) = 1 | roams(0, 40) = 0
                35 haunts(0) = 0
                """);
        script.play("worn behind the 20th, in 2: by 1 to 1, then to and fro by 0", """
                good 5 land places 3 hand 0;road 0 to 1 miles 1;road 1 to 2 miles 1;wheel rim 19 likes 1 1;cart at 2 wheels 0;
                33 roams(0, 19) = 1 | roams(0, 20) = 2 | roams(0, 21) = 1 | roams(0, 22) = 0 | roams(0, 23) = 1 | roams(0, 40) = 0
                35 haunts(0) = 1
                """);
    }

    private static void fitting() {
        script.play("which refusal is asked ahead of which", FULL + """
                38 fits(0) = -6 | fits(3) = -6
                39 ask(0) = -6
                40 leaves(0) = -6
                38 bad fits(0) : -1 4 = -2
                39 bad ask(0) : -1 4 = -2
                40 bad leaves(0) : -1 4 = -2
                row(3, 0, 2)
                38 bad fits(3) : -1 4 = -2
                # 0, 0: a PLACE and a ROAD of it
                38 fits(3) = 159
                write(3, 0, 5)
                write(3, 1, 5)
                38 fits(3) = 32
                39 ask(3) = -1
                40 leaves(3) = 1
                write(3, 0, 6)
                38 fits(3) = -2
                39 ask(3) = -2
                40 leaves(3) = -2
                write(3, 0, -1)
                38 fits(3) = -2
                write(3, 0, 5)
                write(3, 1, 8)
                38 fits(3) = -2
                write(3, 1, -1)
                38 fits(3) = -2
                39 ask(3) = -2
                40 leaves(3) = -2
                # a ROAD, but not of that PLACE
                write(3, 1, 7)
                38 fits(3) = -2
                39 ask(3) = -2
                40 leaves(3) = -2
                write(3, 1, 4)
                38 fits(3) = 223
                """);
        script.play("not two each: 1, 3, 59; 0 and 60 are", FULL + """
                row(0, 0, 1)
                38 fits(0) = -2
                39 ask(0) = -2
                40 leaves(0) = -2
                row(0, 0, 3)
                38 fits(0) = -2
                row(0, 0, 59)
                38 fits(0) = -2
                row(0, 0, 60)
                38 fits(0) = 159
                row(0, 0, 0)
                38 fits(0) = 255
                # the eight are told apart at worst: in 0 six by 0; in 1 six by 0; in 2 seven by 1; in 3 six by 2; in 4 six by 3; in 5 seven by 4
                39 ask(0) = 0
                40 leaves(0) = 6
                # the last pair counts as the first
                row(0, 0, 60)
                write(0, 58, 5)
                write(0, 59, 4)
                38 fits(0) = 159
                write(0, 59, 5)
                38 fits(0) = 0
                39 ask(0) = -1
                40 leaves(0) = 0
                write(0, 59, 7)
                38 fits(0) = -2
                """);
        script.play("no LAND ahead of nothing in the SLOT", """
                38 fits(0) = -2
                39 ask(0) = -2
                40 leaves(0) = -2
                row(0, 0, 0)
                38 fits(0) = -2
                good 1 land places 2 hand 0;
                38 fits(0) = 0 | fits(1) = -6
                39 ask(0) = -1 | ask(1) = -6
                40 leaves(0) = 0 | leaves(1) = -6
                """);
        script.play("fewer than now, the first of several", """
                good 7 land places 4 hand 40;road 0 to 1 miles 1;road 0 to 1 miles 1;road 1 to 2 miles 1;wheel rim 1 likes 1 2;wheel rim 1;wheel rim 1 likes 2 3;
                row(0, 0, 0)
                # in 0: 1, 0, 0; in 1: 1, 0, 2; in 2: all 2; 3 has none
                38 fits(0) = 7
                39 ask(0) = 1
                40 leaves(0) = 1
                row(0, 0, 2)
                # 0, 0: wheels 1 and 2; only 1 tells them apart
                38 fits(0) = 6
                39 ask(0) = 1
                40 leaves(0) = 1
                write(0, 0, 2)
                write(0, 1, 2)
                38 fits(0) = 7
                grease(0)
                # in 0 all are alike then, in 1: 0, 0, 2
                39 ask(0) = 1
                40 leaves(0) = 2
                grease(2)
                39 ask(0) = -1
                40 leaves(0) = 3
                """);
        script.play("ALONE has no hand, and likes as now", """
                good 4 land places 2 hand 40;road 0 to 1 miles 1;road 0 to 1 miles 1;wheel rim 1 likes 1 1;
                41 votes(0, 0) = 0 | votes(0, 1) = 1
                grease(0)
                41 votes(0, 0) = 1 | votes(0, 1) = 0
                undo()
                41 votes(0, 1) = 1
                """);
    }

    private static void liking() {
        script.play("bounds of what is liked", FULL + """
                41 votes(0, 0) = 159 | votes(0, 5) = 32 | votes(0, 6) = 64 | votes(5, 4) = 223 | votes(5, 5) = 32
                # 1 is a PLACE, but not of 5; 7 and 0 are ROADS, but not of 5
                41 bad votes(5, 5) : -1 6 1 / -1 8 7 0 = -2
                42 loved(0) = 1 | loved(7) = 9
                42 bad loved(7) : -1 8 = -2
                43 dearest() = 7
                44 agree(0, 7) = 4 | agree(7, 0) = 4 | agree(0, 0) = 6 | agree(7, 7) = 6
                44 bad agree(7, 0) : -1 8 / -1 8 = -2
                45 mate(0) = 1 | mate(7) = 0
                45 bad mate(7) : -1 8 = -2
                """);
        script.play("dearest: the least of several; all 0; none", """
                good 5 land places 2 hand 0;road 0 to 1 miles 1;road 0 to 1 miles 1;road 0 to 1 miles 1;wheel rim 9 likes 1 4 likes 2 4;
                43 dearest() = 1
                56 tell(0, 2, 5) = 4
                43 dearest() = 2
                grease(0)
                43 dearest() = 0
                42 loved(2) = 0
                good 2 land places 2 hand 0;wheel rim 9;
                43 dearest() = -1
                good 0
                43 dearest() = -2
                """);
        script.play("a ROAD that eight like by 9", "good 10 land places 2 hand 0;road 0 to 1 miles 20;" + "wheel rim 9 likes 0 9;".repeat(8) + "\n" + """
                42 loved(0) = 72
                41 votes(0, 0) = 255 | votes(1, 0) = 255
                """);
        script.play("mate: no other, the least of several, none in common", """
                good 4 land places 3 hand 0;road 0 to 1 miles 1;road 0 to 1 miles 1;wheel rim 1;
                45 mate(0) = -1 | mate(1) = -2
                good 6 land places 3 hand 0;road 0 to 1 miles 1;road 0 to 1 miles 1;wheel rim 1 likes 1 1;wheel rim 1;wheel rim 1;
                44 agree(0, 1) = 0 | agree(1, 2) = 2 | agree(0, 0) = 2
                45 mate(0) = 1 | mate(1) = 2 | mate(2) = 1
                """);
    }

    private static void teaching() {
        script.play("bounds of teaching", FULL + """
                46 teach(7, 7) = 0 | teach(7, 0) = 9 | teach(0, 7) = -1 | teach(0, 0) = 0
                46 bad teach(7, 0) : -1 8 / -1 8 = -2
                46 likes(7, 0) = 0 | wheel(7, 0) = 999
                49 lasts(7, 1) = 1000 | lasts(7, 20) = 50 | lasts(0, 1) = 11 | lasts(0, 10) = 2 | lasts(0, 11) = 1
                49 bad lasts(7, 20) : -1 8 / 0 -1 21 = -2
                """);
        script.play("in both its PLACES", """
                good 5 land places 3 hand 0;road 0 to 1 miles 1;road 0 to 2 miles 1;road 1 to 2 miles 1;wheel rim 99 likes 0 2 likes 1 5;
                # 2 must be more than 0 in 1, and more than 1 in 2
                46 teach(0, 2) = 6 | teach(0, 1) = 0 | teach(0, 0) = 3
                """);
        script.play("a rim that is just enough, and one that is not", """
                good 7 land places 2 hand 0;road 0 to 1 miles 20;road 0 to 1 miles 5;wheel rim 15 likes 0 2;wheel rim 14 likes 0 2;wheel rim 0 likes 1 9;wheel rim 59 likes 1 9;
                # three times 5 miles
                46 teach(0, 1) = 3 | teach(1, 1) = -1
                # worn, it goes by the least
                46 teach(2, 0) = 1 | teach(2, 1) = 0
                46 teach(3, 0) = 3 | teach(3, 1) = 0
                """);
        script.play("9 at most: a lesser one that is liked by 9 is never left", """
                good 4 land places 2 hand 0;road 0 to 1 miles 1;road 0 to 1 miles 1;wheel rim 999 likes 0 9;
                46 teach(0, 1) = -1
                56 tell(0, 0, 8) = 9
                46 teach(0, 1) = 9
                """);
        script.play("till its rim is below 0, this time, too", """
                good 4 land places 2 hand 0;wheel rim 0;wheel rim 1;wheel rim 999;
                49 lasts(0, 1) = 1 | lasts(0, 20) = 1 | lasts(1, 1) = 2 | lasts(1, 2) = 1 | lasts(2, 1) = 1000 | lasts(2, 19) = 53
                """);
    }

    private static void greasing() {
        script.play("bounds of grease", FULL + """
                47 blind(2, 2) = 1 | blind(2, 3) = -1 | blind(2, 6) = 0
                48 blinds(2, 2) = 64 | blinds(2, 3) = -1 | blinds(2, 6) = 0
                47 bad blind(2, 2) : -1 3 / -1 -2 8 7 0 = -2
                48 bad blinds(2, 2) : -1 3 / -1 -2 8 7 0 = -2
                """);
        script.play("the fewest, then the least set", """
                good 8 land places 2 hand 0;road 0 to 1 miles 1;road 0 to 1 miles 1;wheel rim 1 likes 1 2;wheel rim 1 likes 1 2;wheel rim 1 likes 1 2;wheel rim 1 likes 1 2;cart at 0 wheels 0 1 2 3;
                # all four for 0 to be as much as 1; none for 1
                47 blind(0, 0) = 4 | blind(0, 1) = 0
                48 blinds(0, 0) = 15 | blinds(0, 1) = 0
                tell(3, 1, 0)
                tell(3, 0, 4)
                # one of three for 4 to 4: the least of like ones
                47 blind(0, 0) = 1
                48 blinds(0, 0) = 1
                tell(0, 1, 1)
                tell(1, 1, 3)
                # 6 less 1 are too many, less 3 are not
                47 blind(0, 0) = 1
                48 blinds(0, 0) = 2
                tell(3, 0, 3)
                # 6 less 3 as well
                47 blind(0, 0) = 1
                48 blinds(0, 0) = 2
                tell(3, 0, 2)
                # 1, 3, 2 to 2: two of them; 0 and 1, or 1 and 2 would do: the least
                47 blind(0, 0) = 2
                48 blinds(0, 0) = 3
                """);
    }

    private static void sharing() {
        script.play("bounds of shares", FULL + """
                50 share(0, 0, 0) = 0 | share(0, 1, 0) = 1 | share(0, 10000, 0) = 10000 | share(1, 0, 1) = 0
                50 share(1, 10000, 1) = 1429 | share(1, 10000, 2) = 2143 | share(1, 10000, 3) = 2857 | share(1, 10000, 4) = 3571
                # 0, 7 and 5 are WHEELS, but not of it
                50 bad share(1, 10000, 4) : -1 3 0 2 / -1 10001 / -1 8 0 7 5 = -2
                51 worth(0) = 1 | worth(7) = 180
                51 bad worth(7) : -1 8 = -2
                """);
        script.play("of what is left one each to the least WHEELS, though they like nothing", """
                good 5 land places 2 hand 0;road 0 to 1 miles 1;wheel rim 1;wheel rim 1 likes 0 1;cart at 0 wheels 1 0;
                50 share(0, 7, 0) = 0 | share(0, 7, 1) = 7
                good 6 land places 2 hand 0;road 0 to 1 miles 1;wheel rim 1;wheel rim 1 likes 0 1;wheel rim 1 likes 0 1;cart at 0 wheels 2 1 0;
                50 share(0, 7, 0) = 1 | share(0, 7, 1) = 3 | share(0, 7, 2) = 3
                50 share(0, 1, 0) = 1 | share(0, 1, 1) = 0 | share(0, 1, 2) = 0
                50 share(0, 8, 0) = 0 | share(0, 8, 1) = 4 | share(0, 8, 2) = 4
                """);
        script.play("all 0: as if each liked one", """
                good 6 land places 2 hand 0;wheel rim 1;wheel rim 1;wheel rim 1;wheel rim 1;cart at 0 wheels 3 1 2 0;
                50 share(0, 4, 0) = 1 | share(0, 4, 3) = 1
                50 share(0, 3, 0) = 1 | share(0, 3, 2) = 1 | share(0, 3, 3) = 0
                50 share(0, 7, 0) = 2 | share(0, 7, 2) = 2 | share(0, 7, 3) = 1
                50 share(0, 10000, 3) = 2500 | share(0, 9999, 2) = 2500 | share(0, 9999, 3) = 2499
                """);
        script.play("what they like now, of a WHEEL that has the seat now", """
                good 7 land places 2 hand 0;road 0 to 1 miles 1;road 0 to 1 miles 1;wheel rim 9 likes 0 9 likes 1 9;wheel rim 9 likes 0 9;wheel rim 9 likes 1 6;cart at 0 wheels 0 1;
                50 share(0, 27, 0) = 18 | share(0, 27, 1) = 9 | share(0, 27, 2) = -2
                grease(0)
                50 share(0, 27, 0) = 0 | share(0, 27, 1) = 27
                swap(0, 2)
                # 9 and 6 of 15: 16 and 10, and the one that is left to the least
                50 share(0, 27, 0) = -2 | share(0, 27, 1) = 17 | share(0, 27, 2) = 10
                """);
        script.play("as much as can be liked", "good 10 land places 2 hand 0;" + "road 0 to 1 miles 20;".repeat(7) + "wheel rim 9"
                + " likes 0 9 likes 1 9 likes 2 9 likes 3 9 likes 4 9 likes 5 9 likes 6 9" + ";cart at 0 wheels 0;\n" + """
                8 wheel(0, 2) = 63
                50 share(0, 10000, 0) = 10000
                51 worth(0) = 1260
                """);
    }

    private static void smithing() {
        script.play("none, one, two", """
                good 3 land places 2 hand 0;wheel rim 999;cart at 0 wheels 0;
                52 smiths() = 0
                53 picks() = -1
                good 2 land places 2 hand 0;wheel rim 999;
                52 smiths() = 0
                53 picks() = 0
                good 3 land places 2 hand 0;wheel rim 999;wheel rim 998;
                # he keeps the greater rim from the other one
                52 smiths() = -998
                53 picks() = 0
                good 3 land places 2 hand 0;wheel rim 998;wheel rim 999;
                52 smiths() = -998
                53 picks() = 1
                good 3 land places 2 hand 0;wheel rim 7;wheel rim 7;
                52 smiths() = -7
                53 picks() = 0
                """);
        script.play("eight that are free, by turns", """
                good 10 land places 2 hand 0;road 0 to 1 miles 10;wheel rim 1 likes 0 1;wheel rim 2 likes 0 2;wheel rim 3 likes 0 3;wheel rim 4 likes 0 4;wheel rim 5 likes 0 5;wheel rim 6 likes 0 6;wheel rim 7 likes 0 7;wheel rim 8 likes 0 8;
                # the first has 7, 5, 3, 1: 80 and 60 and 40 and 20; the second 7 and 5 and 3 and 1
                52 smiths() = 184
                53 picks() = 7
                """);
        script.play("eight alike", "good 10 land places 2 hand 0;road 0 to 1 miles 20;" + "wheel rim 999 likes 0 9;".repeat(8) + "\n" + """
                52 smiths() = -3276
                53 picks() = 0
                """);
        script.play("picks, whether or not smiths was asked ahead of it", """
                good 5 land places 2 hand 0;road 0 to 1 miles 10;wheel rim 100 likes 0 1;wheel rim 5 likes 0 2;wheel rim 3 likes 0 4;
                53 picks() = 0
                swap(1, 2)
                grease(0)
                grease(2)
                53 picks() = 0
                good 4 land places 2 hand 0;road 0 to 1 miles 10;wheel rim 1 likes 0 1;wheel rim 5 likes 0 2;
                53 picks() = 1
                52 smiths() = 19
                grease(1)
                53 picks() = 0
                good 3 land places 2 hand 0;wheel rim 1;wheel rim 5;
                53 picks() = 1
                """);
        script.play("only those in no CART, as they are now", """
                good 6 land places 2 hand 0;road 0 to 1 miles 10;wheel rim 100 likes 0 1;wheel rim 5 likes 0 2;wheel rim 3 likes 0 4;cart at 0 wheels 0;
                # 25 and 43 together with the rims: he takes 2, the other one 1
                52 smiths() = 35
                53 picks() = 2
                grease(2)
                52 smiths() = 17
                53 picks() = 1
                swap(0, 1)
                52 smiths() = 7
                53 picks() = 0
                """);
        script.play("no LAND", """
                52 smiths() = -2000000
                53 picks() = -2
                """);
    }

    private static void drawing() {
        script.play("draws from 1 are 16838, 5758, 10113, 17515, 31051: of 3 they are 2, 1, 0, 1, 1", OBEYS + """
                54 drawn(1, 0, 0, 0) = 0 | drawn(1, 0, 0, 1) = 0 | drawn(1, 0, 0, 2) = 0
                54 drawn(1, 0, 1, 0) = 1 | drawn(1, 0, 1, 1) = 20 | drawn(1, 0, 2, 1) = 30 | drawn(1, 0, 3, 1) = 31
                54 drawn(1, 0, 4, 1) = 41 | drawn(1, 0, 5, 1) = 51 | drawn(1, 0, 5, 0) = 1 | drawn(1, 0, 5, 2) = 0
                # from 0: 12345 at first, 0 of 3
                54 drawn(0, 0, 1, 1) = 1
                54 drawn(1, 0, 40, 0) = 0
                54 bad drawn(1, 0, 40, 0) : -1 2000000001 / -1 1 / -1 41 / -1 3 = -2
                54 count(8) = 0 | wheel(0, 0) = 999
                55 luck(1, 1, 0, 1, 1) = 1 | luck(1, 20, 0, 1, 1) = 20 | luck(1, 20, 0, 1, 0) = 0 | luck(1, 20, 0, 40, 0) = 20 | luck(1, 20, 0, 0, 0) = 20
                55 bad luck(1, 20, 0, 40, 1) : -1 2000000001 / 0 -1 21 / -1 1 / -1 41 / -1 2 = -2
                # the seed is in its bounds, though those behind it are not
                55 luck(2000000000, 20, 0, 0, 0) = 20 | luck(2000000000, 20, 0, 1, 1) = 20
                54 drawn(2000000000, 0, 0, 1) = 0
                """);
        script.play("a draw of eight: 6, 6, 1, 3, 3", """
                good 11 land places 2 hand 40;road 0 to 1 miles 1;road 0 to 1 miles 2;road 0 to 1 miles 3;road 0 to 1 miles 4;road 0 to 1 miles 5;road 0 to 1 miles 6;road 0 to 1 miles 7;road 0 to 1 miles 8;wheel rim 999;cart at 0 wheels 0;
                54 drawn(1, 0, 1, 1) = 7 | drawn(1, 0, 2, 1) = 14 | drawn(1, 0, 3, 1) = 16 | drawn(1, 0, 4, 1) = 20 | drawn(1, 0, 5, 1) = 24
                """);
        script.play("of one ROAD it is drawn, too: 1, then 2, then 1", """
                good 5 land places 3 hand 40;road 0 to 1 miles 1;road 1 to 2 miles 10;wheel rim 999;cart at 0 wheels 0;
                # 16838 of 1; 5758 of 2 is 0: back by 0; 10113 of 1; 17515 of 2 is 1: by 1 to 2; 31051 of 1: back
                54 drawn(1, 0, 1, 0) = 1 | drawn(1, 0, 2, 0) = 0 | drawn(1, 0, 3, 0) = 1 | drawn(1, 0, 4, 0) = 2 | drawn(1, 0, 5, 0) = 1
                54 drawn(1, 0, 5, 1) = 23
                """);
        script.play("in how many it went by another than that wanted", """
                good 6 land places 2 hand 0;road 0 to 1 miles 1;road 0 to 1 miles 10;road 1 to 0 miles 20;wheel rim 999 likes 0 1;cart at 0 wheels 0;
                # 2, 1, 0, 1, 1 are wanted, by 0 it goes
                54 drawn(1, 0, 1, 2) = 1 | drawn(1, 0, 2, 2) = 2 | drawn(1, 0, 3, 2) = 2 | drawn(1, 0, 4, 2) = 3 | drawn(1, 0, 5, 2) = 4
                54 drawn(1, 0, 5, 1) = 5
                """);
        script.play("as far as it can", """
                good 4 land places 3 hand 40;road 0 to 1 miles 1;wheel rim 9;cart at 2 wheels 0;
                54 drawn(1, 0, 40, 0) = 2 | drawn(1, 0, 40, 1) = 0 | drawn(1, 0, 40, 2) = 0
                55 luck(0, 20, 0, 40, 2) = 20 | luck(0, 20, 0, 40, 1) = 0
                """);
    }

    private static void telling() {
        script.play("bounds of tell and hand", FULL + """
                56 tell(7, 7, 0) = 9 | tell(7, 7, 9) = 0 | tell(0, 0, 9) = 1 | tell(0, 0, 1) = 9
                56 bad tell(7, 7, 9) : -1 8 / -1 8 / -1 10 = -2
                56 likes(7, 7) = 9
                57 hand(0) = 2 | hand(40) = 0 | hand(2) = 40
                57 bad hand(2) : -1 41 = -2
                57 count(5) = 2
                """);
        script.play("acts that are not taken back", FULL + """
                drive(0, 0)
                56 tell(0, 0, 3) = -5 | tell(0, 8, 3) = -2 | tell(8, 0, 3) = -2 | tell(0, 0, 10) = -2 | tell(0, 0, -1) = -2
                57 hand(3) = -5 | hand(41) = -2 | hand(-1) = -2
                56 likes(0, 0) = 2 | count(5) = 2
                undo()
                56 tell(0, 0, 3) = 1 | likes(0, 0) = 3
                57 hand(3) = 2 | count(5) = 3
                drive(0, 0)
                20 anew() = 1
                # as it is told now
                56 likes(0, 0) = 3 | tell(0, 0, 1) = 3
                57 count(5) = 3 | hand(2) = 3
                """);
        script.play("no LAND, no WHEELS, no ROADS", """
                56 tell(0, 0, 0) = -2
                57 hand(0) = -2 | hand(40) = -2
                good 2 land places 2 hand 1;wheel rim 1;
                56 tell(0, 0, 0) = -2
                57 hand(40) = 1
                good 2 land places 2 hand 1;road 0 to 1 miles 1;
                56 tell(0, 0, 0) = -2
                57 hand(40) = 1
                grease(0)
                57 hand(0) = 40
                """);
    }

    private static void images() {
        script.play("bounds of IMAGES", FULL + """
                59 bad image(2) : -1 3 = -2
                60 bad back(2) : -1 3 = -2
                60 back(0) = -6 | back(1) = -6 | back(2) = -6
                59 image(0) = 0
                60 back(1) = -6 | back(2) = -6 | back(0) = 0
                drive(0, 0)
                59 image(2) = 0
                drive(0, 0)
                60 back(1) = -6 | count(8) = 2
                60 back(0) = 0 | count(8) = 0 | back(2) = 0 | count(8) = 1 | cart(0, 0) = 1
                # an IMAGE gone back to is kept, and what is done behind it does not change it
                drive(0, 0)
                60 back(2) = 0 | count(8) = 1 | cart(0, 2) = 1
                59 image(0) = 0
                60 back(0) = 0 | count(8) = 1
                """);
        script.play("an IMAGE of no LAND is one", """
                60 back(0) = -6
                59 image(0) = 0
                60 back(0) = 0
                good 1 land places 2 hand 0;
                60 back(0) = 0 | count(6) = 0 | undo() = -2 | roads(0) = -2 | smiths() = -2000000
                """);
        script.play("an IMAGE with 40 acts; TAPE and SLOTS are none of it", OBEYS + """
                *40 drive(0, 0)
                59 image(1) = 0
                anew()
                57 hand(7) = 40
                56 tell(0, 0, 9) = 0
                row(0, 0, 1)
                tape land
                60 back(1) = 0 | count(5) = 40 | count(8) = 40 | count(7) = 4 | count(9) = 1 | cart(0, 2) = 40
                16 drive(0, 0) = -5
                19 undo() = 39
                20 anew() = 39 | likes(0, 0) = 0
                # the latest land() is what it was
                4 land() = -4
                60 back(1) = 0
                5 fault(0) = 1 | fault(1) = 4
                """);
    }

    private static void rows() {
        script.play("bounds of rows", """
                61 bad row(3, 3, 60) : -1 4 / -1 4 / 61 MAX ! = -2
                61 bad row(3, 3, 60) : - / - / -1 MIN ! = -3
                61 row(4, 0, -1) = -2 | row(0, 4, -1) = -2 | row(-1, -1, 61) = -2
                61 count(9) = 0
                62 write(3, 0, 0) = -6
                61 row(3, 3, 60) = 0 | row(0, 0, 0) = 0 | count(9) = 2 | row(1, 1, 1) = 0 | row(2, 2, 59) = 0 | count(9) = 4
                62 write(3, 0, 1) = 0 | write(3, 59, 1) = 0 | write(3, 60, 1) = -7 | write(3, -1, 1) = -7 | write(3, MAX, 1) = -7 | write(3, MIN, 1) = -7
                62 write(0, 0, 1) = -7 | write(1, 0, 1) = 0 | write(1, 1, 1) = -7 | write(2, 58, 1) = 0 | write(2, 59, 1) = -7
                62 write(4, 0, 1) = -2 | write(-1, 0, 1) = -2 | write(MAX, 0, 1) = -2 | write(MIN, 0, 1) = -2 | write(4, 60, 1) = -2
                61 row(3, 3, 61) = -2 | row(3, 3, -1) = -3 | count(9) = 4
                # it stays as it was
                62 write(3, 59, 1) = 0
                61 row(3, 0, 1) = 0
                62 write(3, 59, 1) = -7 | write(3, 1, 1) = -7 | write(3, 0, 1) = 0
                61 count(9) = 4
                """);
        script.play("-6 ahead of -7", """
                62 write(0, 0, 0) = -6 | write(0, -1, 0) = -6 | write(0, 60, 0) = -6 | write(3, MAX, LMAX) = -6 | write(4, -1, LMIN) = -2
                """);
        script.play("all 0, in place of another one, of a WIDTH of its own", OBEYS + """
                row(0, 0, 3)
                write(0, 0, 2)
                write(0, 2, 2)
                23 ran(0, 0) = 41
                61 row(0, 0, 3) = 0
                23 ran(0, 0) = 3
                write(0, 1, 1)
                # refused: it stays, its numbers and its WIDTH
                61 row(0, 3, -1) = -3 | row(0, 4, 2) = -2 | row(0, 1, 61) = -2
                23 ran(0, 0) = 12
                62 write(0, 0, 258) = 0
                23 ran(0, 0) = 31
                61 row(0, 3, 60) = 0 | row(0, 3, 3) = 0
                62 write(0, 0, 258) = 0
                23 ran(0, 0) = -2
                """);
    }

    private static void widths() {
        script.play("cut to one byte", OBEYS + """
                row(0, 0, 1)
                62 write(0, 0, 256) = 0 | ran(0, 0) = 1 | write(0, 0, 257) = 0 | ran(0, 0) = 10 | write(0, 0, 258) = 0 | ran(0, 0) = 20
                62 write(0, 0, 259) = 0 | ran(0, 0) = -2 | write(0, 0, 255) = 0 | ran(0, 0) = 1 | write(0, 0, 254) = 0 | ran(0, 0) = -2
                62 write(0, 0, -255) = 0 | ran(0, 0) = 10 | write(0, 0, -256) = 0 | ran(0, 0) = 1 | write(0, 0, -257) = 0 | ran(0, 0) = 1
                62 write(0, 0, 127) = 0 | ran(0, 0) = -2 | write(0, 0, 128) = 0 | ran(0, 0) = -2 | write(0, 0, -128) = 0 | ran(0, 0) = -2
                62 write(0, 0, 65537) = 0 | ran(0, 0) = 10 | write(0, 0, LMAX) = 0 | ran(0, 0) = 1 | write(0, 0, LMIN) = 0 | ran(0, 0) = 1
                62 write(0, 0, 4294967298) = 0 | ran(0, 0) = 20
                """);
        script.play("cut to two bytes", OBEYS + """
                row(0, 1, 1)
                62 write(0, 0, 256) = 0 | ran(0, 0) = -2 | write(0, 0, 255) = 0 | ran(0, 0) = -2
                62 write(0, 0, 65536) = 0 | ran(0, 0) = 1 | write(0, 0, 65537) = 0 | ran(0, 0) = 10 | write(0, 0, 65535) = 0 | ran(0, 0) = 1
                62 write(0, 0, 65534) = 0 | ran(0, 0) = -2 | write(0, 0, 32767) = 0 | ran(0, 0) = -2 | write(0, 0, 32768) = 0 | ran(0, 0) = -2
                62 write(0, 0, -65535) = 0 | ran(0, 0) = 10 | write(0, 0, -65534) = 0 | ran(0, 0) = 20
                62 write(0, 0, LMAX) = 0 | ran(0, 0) = 1 | write(0, 0, LMIN) = 0 | ran(0, 0) = 1 | write(0, 0, 4294967298) = 0 | ran(0, 0) = 20
                """);
        script.play("cut to four bytes", OBEYS + """
                row(0, 2, 1)
                62 write(0, 0, 256) = 0 | ran(0, 0) = -2 | write(0, 0, 65536) = 0 | ran(0, 0) = -2 | write(0, 0, 65535) = 0 | ran(0, 0) = -2
                62 write(0, 0, 4294967296) = 0 | ran(0, 0) = 1 | write(0, 0, 4294967297) = 0 | ran(0, 0) = 10 | write(0, 0, 4294967295) = 0 | ran(0, 0) = 1
                62 write(0, 0, 2147483647) = 0 | ran(0, 0) = -2 | write(0, 0, 2147483648) = 0 | ran(0, 0) = -2
                62 write(0, 0, -4294967294) = 0 | ran(0, 0) = 20 | write(0, 0, LMAX) = 0 | ran(0, 0) = 1 | write(0, 0, LMIN) = 0 | ran(0, 0) = 1
                """);
        script.play("eight bytes are not cut", OBEYS + """
                row(0, 3, 1)
                62 write(0, 0, 256) = 0 | ran(0, 0) = -2 | write(0, 0, 65536) = 0 | ran(0, 0) = -2 | write(0, 0, 4294967296) = 0 | ran(0, 0) = -2
                62 write(0, 0, 4294967295) = 0 | ran(0, 0) = -2 | write(0, 0, LMAX) = 0 | ran(0, 0) = -2 | write(0, 0, LMIN) = 0 | ran(0, 0) = -2
                62 write(0, 0, -4294967295) = 0 | ran(0, 0) = -2 | write(0, 0, -4294967296) = 0 | ran(0, 0) = -2
                62 write(0, 0, 2) = 0 | ran(0, 0) = 20 | write(0, 0, 0) = 0 | ran(0, 0) = 1 | write(0, 0, -1) = 0 | ran(0, 0) = 1 | write(0, 0, -2) = 0 | ran(0, 0) = -2
                """);
        script.play("a PLACE and a ROAD, cut", FULL + """
                row(0, 0, 2)
                write(0, 0, 261)
                write(0, 1, 260)
                62 fits(0) = 223
                row(0, 3, 2)
                write(0, 0, 4294967301)
                write(0, 1, 4)
                62 fits(0) = -2
                write(0, 0, 5)
                62 fits(0) = 223
                write(0, 1, 4294967300)
                62 fits(0) = -2
                write(0, 1, LMIN)
                62 fits(0) = -2
                # these would be 0 if they were cut to four bytes
                write(0, 0, 0)
                62 fits(0) = -2
                write(0, 1, 0)
                62 fits(0) = 159
                write(0, 0, LMIN)
                62 fits(0) = -2
                write(0, 0, -4294967296)
                62 fits(0) = -2
                write(0, 0, 4294967296)
                62 fits(0) = -2
                write(0, 0, 0)
                write(0, 1, -4294967296)
                62 fits(0) = -2
                write(0, 1, 4294967296)
                62 fits(0) = -2
                """);
    }

    private static void pasting() {
        script.play("which refusal is asked ahead of which", """
                63 paste(0, 0, 0, 0, 0) = -6 | paste(0, 0, 4, 0, 0) = -2 | paste(4, 0, 0, 0, 0) = -2 | paste(-1, -1, -1, -1, -1) = -2
                row(0, 0, 5)
                row(1, 1, 5)
                63 paste(0, 0, 2, 0, 0) = -6 | paste(2, 0, 0, 0, 0) = -6 | paste(0, -1, 2, -1, -1) = -6 | paste(2, 9, 1, 9, 9) = -6
                63 paste(0, 0, 1, 0, 0) = -8 | paste(1, 0, 0, 0, 5) = -8 | paste(0, -1, 1, 0, 0) = -8 | paste(0, 0, 1, 9, 9) = -8 | paste(0, 0, 1, 0, -1) = -8
                row(3, 0, 3)
                63 bad paste(0, 0, 3, 0, 3) : -1 4 / - / -1 4 / - / - = -2
                63 bad paste(0, 0, 3, 0, 3) : - / -1 3 / - / -1 1 / -1 4 = -7
                63 bad paste(0, 2, 3, 0, 3) : - / -1 3 / - / -1 1 / -1 4 = -7
                63 bad paste(3, 0, 0, 2, 3) : - / -1 1 / - / -1 3 / -1 4 = -7
                63 paste(0, 0, 3, 0, 3) = 0 | paste(0, 2, 3, 0, 3) = 0 | paste(3, 0, 0, 2, 3) = 0 | paste(0, 0, 0, 0, 5) = 0
                63 paste(0, MAX, 3, 0, MAX) = -7 | paste(0, MAX, 3, MAX, 1) = -7 | paste(0, 1, 3, 0, MAX) = -7
                """);
        script.play("none at all", """
                row(0, 2, 3)
                row(1, 2, 0)
                63 paste(0, 0, 1, 0, 0) = 0 | paste(1, 0, 0, 0, 0) = 0 | paste(0, 3, 1, 0, 0) = 0 | paste(1, 0, 0, 3, 0) = 0 | paste(1, 0, 1, 0, 0) = 0
                63 paste(0, 0, 1, 0, 1) = -7 | paste(1, 0, 0, 0, 1) = -7
                63 paste(0, -1, 1, 0, 0) = -7 | paste(0, 0, 1, -1, 0) = -7
                """);
        script.play("60 to 60, of each WIDTH", OBEYS + """
                row(0, 0, 60)
                row(1, 0, 60)
                write(0, 0, 2)
                write(0, 59, 1)
                63 paste(0, 0, 1, 0, 60) = 0
                23 ran(1, 0) = 88
                63 paste(0, 0, 1, 0, 61) = -7 | paste(0, 1, 1, 0, 60) = -7 | paste(0, 0, 1, 1, 60) = -7
                23 ran(1, 0) = 88
                63 paste(0, 59, 1, 58, 1) = 0
                23 ran(1, 0) = 97
                row(0, 3, 2)
                row(1, 3, 2)
                write(0, 1, 4294967296)
                63 paste(0, 1, 1, 0, 1) = 0
                # all of its eight bytes came
                23 ran(1, 0) = -2
                write(1, 0, 0)
                23 ran(1, 0) = 2 | ran(0, 0) = -2
                """);
        script.play("its own, as they were, on either side", OBEYS + """
                row(0, 1, 5)
                write(0, 0, 1)
                write(0, 1, 2)
                # 1, 2, 0, 0, 0: 30 + 3; one on: 1, 1, 2, 0, 0
                63 paste(0, 0, 0, 1, 4) = 0
                23 ran(0, 0) = 42
                # one back: 1, 2, 0, 0, 0
                63 paste(0, 1, 0, 0, 4) = 0
                23 ran(0, 0) = 33
                63 paste(0, 0, 0, 3, 2) = 0
                # 1, 2, 0, 1, 2
                23 ran(0, 0) = 61
                # 0 to its own place
                63 paste(0, 0, 0, 0, 5) = 0 | paste(0, 5, 0, 5, 0) = 0
                23 ran(0, 0) = 61
                # refused: nothing happens
                63 paste(0, 0, 0, 1, 5) = -7 | paste(0, 1, 0, 0, 5) = -7 | paste(0, 0, 0, -1, 2) = -7 | paste(0, 3, 0, 0, 3) = -7
                23 ran(0, 0) = 61
                """);
    }
}
