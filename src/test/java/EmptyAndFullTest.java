/** What every call answers where there is nothing (no LAND, no ROADS, no WHEELS, no CARTS), and in an object's last calls. */
public final class EmptyAndFullTest {
    private static Script script;

    public static void main(String[] args) {
        script = new Script(args.length > 0 ? Model::new : WheelMemory::new);
        noLand();
        onlyPlaces();
        noRoads();
        noWheels();
        noCarts();
        noErrands();
        lastCalls();
        System.out.println(script.wrong() == 0 ? "the empty and the full are as told" : script.wrong() + " answers are not as told");
        if (script.wrong() != 0) System.exit(1);
    }

    private static final String NO_LAND = """
            58 count(0) = 0 | count(1) = 0 | count(2) = 0 | count(3) = 0 | count(4) = 0 | count(5) = 0 | count(6) = 0 | count(8) = 0
            6 road(0, 0) = -2 | road(0, 1) = -2 | road(0, 2) = -2 | road(-1, 0) = -2
            7 likes(0, 0) = -2
            8 wheel(0, 0) = -2 | wheel(0, 1) = -2 | wheel(0, 2) = -2
            9 cart(0, 0) = -2 | cart(0, 1) = -2 | cart(0, 2) = -2
            10 errand(0, 0) = -2 | errand(0, 2) = -2
            11 roads(0) = -2
            12 pull(0, 0) = -2
            13 takes(0, 0) = -2 | takes(0, -1) = -2
            14 aside(0) = -2
            15 argue(0, 0) = -2
            16 drive(0, 0) = -2 | drive(0, -1) = -2
            17 swap(0, 1) = -2
            18 grease(0) = -2
            19 undo() = -2
            20 anew() = -2
            21 goes(0, 0) = -2
            22 ends(0, 0) = -2
            23 ran(0, 0) = -2
            24 astray(0, 0) = -2
            25 worn(0, 0) = -2
            26 way(0, 0) = -2
            27 wants(0, 0, 0) = -2
            28 reach(0) = -2
            29 far(0, 0) = -2 | far(0, 1) = -2
            30 dues() = -2
            31 choose(0, 0) = -2
            32 chosen(0, 0) = -2
            33 roams(0, 0) = -2
            34 circle(0) = -2
            35 haunts(0) = -2
            36 meet(0, 0) = -2
            37 met(0, 0) = -2
            38 fits(0) = -2
            39 ask(0) = -2
            40 leaves(0) = -2
            41 votes(0, 0) = -2
            42 loved(0) = -2
            43 dearest() = -2
            44 agree(0, 0) = -2 | agree(0, 1) = -2
            45 mate(0) = -2
            46 teach(0, 0) = -2
            47 blind(0, 0) = -2
            48 blinds(0, 0) = -2
            49 lasts(0, 1) = -2
            50 share(0, 0, 0) = -2
            51 worth(0) = -2
            52 smiths() = -2000000
            53 picks() = -2
            54 drawn(0, 0, 0, 0) = -2
            55 luck(0, 1, 0, 0, 0) = -2
            56 tell(0, 0, 0) = -2
            57 hand(0) = -2 | hand(40) = -2
            58 count(0) = 0 | count(6) = 0 | count(8) = 0
            """;

    private static void noLand() {
        script.play("a new object", """
                1 count(7) = 0 | count(9) = 0 | fault(0) = 0 | fault(1) = -1 | land() = 0 | back(0) = -6 | back(1) = -6 | back(2) = -6
                1 write(0, 0, 0) = -6 | write(1, 0, 0) = -6 | write(2, 0, 0) = -6 | write(3, 0, 0) = -6
                """);
        script.play("no LAND yet", NO_LAND);
        script.play("no LAND yet, but rows", "row(0, 0, 0)\n" + NO_LAND);
        script.play("no LAND any more", "good 4 land places 6 hand 40;road 0 to 1 miles 1;wheel rim 9 likes 0 9;cart at 0 wheels 0;\ndrive(0, 0)\ngood 0\n" + NO_LAND);
        script.play("no LAND again", "image(0)\ngood 4 land places 6 hand 40;road 0 to 1 miles 1;wheel rim 9 likes 0 9;cart at 0 wheels 0;\n"
                + "drive(0, 0)\nback(0)\n" + NO_LAND);
        script.play("no LAND, for it has a FAULT", "fault 1 land places 6 hand 40;road 0 to 1 miles 1;wheel rim 9 likes 0 9;cart at 0 wheels 0^\n" + NO_LAND);
    }

    private static void onlyPlaces() {
        script.play("a LAND of PLACES alone", """
                good 1 land places 6 hand 40;
                58 count(0) = 6 | count(1) = 0 | count(2) = 0 | count(3) = 0 | count(4) = 0 | count(5) = 40 | count(6) = 1
                6 road(0, 0) = -2
                7 likes(0, 0) = -2
                8 wheel(0, 0) = -2
                9 cart(0, 0) = -2
                10 errand(0, 0) = -2
                11 roads(0) = 0 | roads(5) = 0 | roads(6) = -2
                13 takes(0, -1) = -2
                16 drive(0, -1) = -2
                18 grease(0) = -2
                19 undo() = -5
                20 anew() = 0
                21 goes(0, 0) = -2
                26 way(0, 0) = -2
                29 far(0, 0) = 0 | far(0, 5) = -1 | far(5, 0) = -1 | far(5, 5) = 0 | far(0, 6) = -2
                30 dues() = 0
                31 choose(0, 0) = -2
                38 fits(0) = -6
                row(0, 0, 0)
                38 fits(0) = 0
                39 ask(0) = -1
                40 leaves(0) = 0
                row(0, 0, 2)
                38 fits(0) = -2
                41 votes(0, 0) = -2
                42 loved(0) = -2
                43 dearest() = -1
                45 mate(0) = -2
                52 smiths() = 0
                53 picks() = -1
                56 tell(0, 0, 0) = -2
                57 hand(0) = 40 | hand(39) = 0
                59 image(0) = 0
                60 back(0) = 0 | count(5) = 39
                """);
    }

    private static void noRoads() {
        script.play("a LAND without ROADS", """
                good 7 land places 2 hand 5;wheel rim 7;wheel rim 8;wheel rim 9;cart at 1 wheels 1;errand 0 to 1 by 1;errand 0 to 0 by 200;
                11 roads(0) = 0 | roads(1) = 0
                7 likes(0, 0) = -2
                8 wheel(0, 0) = 7 | wheel(0, 2) = 0 | wheel(1, 1) = 0 | wheel(2, 1) = -1
                12 pull(0, 0) = -2
                13 takes(0, -1) = -1 | takes(0, 0) = -2
                14 aside(0) = 0
                15 argue(0, 0) = -2
                16 drive(0, -1) = -5 | drive(0, 0) = -2
                26 way(0, 1) = 0 | way(0, 0) = -1
                27 wants(0, 1, 0) = -1 | wants(0, 0, 0) = -1
                28 reach(0) = 2
                29 far(0, 1) = -1 | far(1, 1) = 0
                30 dues() = 1
                31 choose(0, 1) = 0 | choose(0, 0) = -1
                32 chosen(0, 1) = 1 | chosen(0, 0) = -1
                33 roams(0, 40) = 1
                34 circle(0) = -1
                35 haunts(0) = 1
                36 meet(0, 1) = 0 | meet(0, 0) = -1
                37 met(0, 1) = 1 | met(0, 0) = -1
                41 votes(0, 0) = -2
                42 loved(0) = -2
                43 dearest() = -1
                44 agree(0, 1) = 0 | agree(0, 0) = 0
                45 mate(0) = 1 | mate(1) = 0 | mate(2) = 0
                46 teach(0, 0) = -2
                47 blind(0, 0) = -2
                48 blinds(0, 0) = -2
                49 lasts(0, 7) = 2
                50 share(0, 10000, 1) = 10000
                51 worth(0) = 0
                # rims of 7 and 9 are free: he keeps 9 from the other one
                52 smiths() = -7
                53 picks() = 2
                54 drawn(5, 0, 40, 0) = 1 | drawn(5, 0, 40, 1) = 0 | drawn(5, 0, 40, 2) = 0
                55 luck(5, 20, 0, 40, 1) = 20 | luck(5, 20, 0, 40, 0) = 0
                56 tell(0, 0, 0) = -2
                row(0, 0, 0)
                21 goes(0, 0) = 0
                38 fits(0) = 7
                39 ask(0) = -1
                40 leaves(0) = 3
                row(0, 0, 1)
                21 goes(0, 0) = -2
                write(0, 0, -1)
                21 goes(0, 0) = 0
                22 ends(0, 0) = 1
                23 ran(0, 0) = 0
                24 astray(0, 0) = -1
                25 worn(0, 0) = -1
                18 grease(0) = 0
                17 swap(0, 1) = 0 | cart(0, 1) = 1
                19 count(8) = 2 | undo() = 1
                """);
    }

    private static void noWheels() {
        script.play("a LAND without WHEELS", """
                good 3 land places 3 hand 5;road 0 to 1 miles 3;road 1 to 0 miles 2;
                58 count(1) = 2 | count(2) = 0 | count(3) = 0
                11 roads(0) = 3 | roads(1) = 3 | roads(2) = 0
                7 likes(0, 0) = -2
                8 wheel(0, 0) = -2
                17 swap(0, 1) = -2
                18 grease(0) = -2
                29 far(0, 1) = 2 | far(0, 2) = -1
                30 dues() = 0
                41 votes(0, 0) = 0 | votes(0, 1) = 0 | votes(2, 0) = -2
                42 loved(0) = 0 | loved(1) = 0 | loved(2) = -2
                43 dearest() = 0
                44 agree(0, 0) = -2
                45 mate(0) = -2
                46 teach(0, 0) = -2
                49 lasts(0, 1) = -2
                51 worth(0) = -2
                52 smiths() = 0
                53 picks() = -1
                56 tell(0, 0, 0) = -2
                row(0, 0, 2)
                38 fits(0) = 0
                39 ask(0) = -1
                40 leaves(0) = 0
                write(0, 0, 2)
                38 fits(0) = -2
                """);
    }

    private static void noCarts() {
        script.play("a LAND without CARTS", """
                good 5 land places 3 hand 5;road 0 to 1 miles 3;road 1 to 0 miles 2;wheel rim 7 likes 1 2;wheel rim 0;
                8 wheel(0, 1) = -1 | wheel(1, 1) = -1
                9 cart(0, 0) = -2
                12 pull(0, 0) = -2
                13 takes(0, -1) = -2
                14 aside(0) = -2
                15 argue(0, 0) = -2
                16 drive(0, -1) = -2
                21 goes(0, 0) = -2
                26 way(0, 0) = -2
                28 reach(0) = -2
                30 dues() = 0
                31 choose(0, 0) = -2
                33 roams(0, 0) = -2
                34 circle(0) = -2
                35 haunts(0) = -2
                36 meet(0, 0) = -2
                41 votes(0, 1) = 1 | votes(1, 0) = 2
                44 agree(0, 1) = 0
                45 mate(0) = 1 | mate(1) = 0
                46 teach(0, 0) = 2 | teach(1, 1) = -1
                47 blind(0, 0) = -2
                50 share(0, 0, 0) = -2 | share(-1, 0, 0) = -2
                # 4 and 7, 0 and 0 together
                52 smiths() = 4
                53 picks() = 0
                54 drawn(0, 0, 0, 0) = -2
                55 luck(0, 1, 0, 0, 0) = -2
                18 grease(0) = 2
                17 swap(0, 1) = 0
                19 undo() = 1 | undo() = 0
                """);
    }

    private static void noErrands() {
        script.play("a LAND without ERRANDS", """
                good 4 land places 2 hand 5;road 0 to 1 miles 3;wheel rim 7;cart at 0 wheels 0;
                10 errand(0, 0) = -2
                30 dues() = 0
                58 count(4) = 0
                """);
    }

    /** Of 512 calls the last is as good as the first. */
    private static void lastCalls() {
        String land = "good 4 land places 2 hand 5;road 0 to 1 miles 3;wheel rim 999;cart at 0 wheels 0;\n";
        script.play("512 calls", land + """
                *245 image(0)
                *245 takes(0, -1)
                16 drive(0, -1) = 1 | drive(0, -1) = 0
                19 undo() = 1
                60 back(0) = 0 | cart(0, 0) = 0
                16 drive(0, -1) = 1
                59 image(2) = 0
                60 back(2) = 0 | cart(0, 0) = 1 | undo() = 0 | cart(0, 0) = 0 | count(8) = 0
                calls 512
                """);
    }
}
