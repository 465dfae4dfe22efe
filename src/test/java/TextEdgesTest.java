import java.util.ArrayList;
import java.util.List;

/**
 * Texts of a LAND (Terms I, promises 4 and 5): the last number inside each bound and the first outside it, each
 * FAULT at each place where it can stand, signs that are just no TOKENS, LANDS that are empty and full.
 */
public final class TextEdgesTest {
    private static Script script;

    public static void main(String[] args) {
        script = new Script(args.length > 0 ? Model::new : WheelMemory::new);
        lines();
        lands();
        roads();
        wheels();
        carts();
        errands();
        tooMany();
        fifthWheels();
        tokens();
        ends();
        firstOfSeveral();
        everyToken();
        wholeTape();
        System.out.println(script.wrong() == 0 ? "texts are read as told, up to their edges" : script.wrong() + " texts are not read as told");
        if (script.wrong() != 0) System.exit(1);
    }

    private static void lines() {
        script.playEach("{LINE ;}", """
                good 0
                good 0 \\n
                good 0 \\n\\x20\\n
                good 1 land places 2 hand 0;
                good 1 \\nland places 2 hand 0 ;\\n
                good 2 land places 2 hand 0;wheel rim 0;
                good 4 land places 2 hand 0;road 0 to 1 miles 1;wheel rim 0;cart at 0 wheels 0;
                # LINES in another order, as far as each is told ahead of what has it
                good 6 land places 2 hand 0;wheel rim 1;cart at 1 wheels 0;errand 0 to 1 by 1;road 0 to 1 miles 1;wheel rim 1 likes 0 1;
                """);
        script.playEach("land is the first LINE and no other", """
                fault 1 ^road 0 to 1 miles 1;
                fault 1 ^wheel rim 1;
                fault 1 ^cart at 0 wheels 0;
                fault 1 ^errand 0 to 0 by 1;
                fault 1 ^places 2 hand 0;
                fault 1 ^lands places 2 hand 0;
                fault 1 ^lan places 2 hand 0;
                fault 1 ^;
                fault 1 ^; land places 2 hand 0;
                fault 1 ^0
                fault 1 ^0 land places 2 hand 0;
                fault 1 ^wheel
                """);
        script.playEach("no second land", """
                fault 1 land places 2 hand 0;^land places 2 hand 0;
                fault 1 land places 2 hand 0; ^land
                fault 1 land places 2 hand 0; ^land places 9 hand 99;
                fault 1 land places 2 hand 0;road 0 to 1 miles 1;^land places 2 hand 0;
                fault 1 land places 2 hand 0;^;
                fault 1 land places 2 hand 0;^places
                fault 1 land places 2 hand 0;^2
                fault 1 land places 2 hand 0;^likes 0 1;
                """);
    }

    private static void lands() {
        script.playEach("places 2 .. 6", """
                fault 2 land places ^0 hand 0;
                fault 2 land places ^1 hand 0;
                good 1 land places 2 hand 0;
                good 1 land places 3 hand 0;
                good 1 land places 5 hand 0;
                good 1 land places 6 hand 0;
                fault 2 land places ^7 hand 0;
                fault 2 land places ^10 hand 0;
                fault 2 land places ^20 hand 0;
                """);
        script.playEach("hand 0 .. 40", """
                good 1 land places 2 hand 0;
                good 1 land places 2 hand 1;
                good 1 land places 2 hand 39;
                good 1 land places 2 hand 40;
                fault 2 land places 2 hand ^41;
                fault 2 land places 2 hand ^400;
                fault 1 land places 2 hand ^-1;
                """);
        script.playEach("words of it", """
                fault 1 land ^hand 0 places 2;
                fault 1 land ^2 hand 0;
                fault 1 land ^;
                fault 1 land places ^hand 0;
                fault 1 land places ^;
                fault 1 land places 2 ^0;
                fault 1 land places 2 ^;
                fault 1 land places 2 ^places 2;
                fault 1 land places 2 hand ^;
                fault 1 land places 2 hand ^hand;
                fault 1 land places 2 hand 0 ^0;
                fault 1 land places 2 hand 0 ^road 0 to 1 miles 1;
                """);
    }

    private static void roads() {
        for (int places = 2; places <= 6; places++) {
            int last = places - 1;
            String land = "land places " + places + " hand 0;";
            String title = "PLACES 0 .. " + last;
            script.play(title, "good 2 " + land + "road 0 to " + last + " miles 1;");
            script.play(title, "good 2 " + land + "road " + last + " to 0 miles 1;");
            script.play(title, "fault 2 " + land + "road ^" + places + " to 0 miles 1;");
            script.play(title, "fault 2 " + land + "road 0 to ^" + places + " miles 1;");
            for (int p = 0; p <= last; p++) {
                script.play("unlike ones", "fault 2 " + land + "road " + p + " to ^" + p + " miles 1;");
            }
            script.play(title, "good 3 " + land + "wheel rim 1;cart at " + last + " wheels 0;");
            script.play(title, "fault 2 " + land + "wheel rim 1;cart at ^" + places + " wheels 0;");
            script.play(title, "good 4 " + land + "wheel rim 1;cart at 0 wheels 0;errand 0 to " + last + " by 1;");
            script.play(title, "fault 2 " + land + "wheel rim 1;cart at 0 wheels 0;errand 0 to ^" + places + " by 1;");
        }
        script.playEach("miles 1 .. 20", """
                fault 2 land places 2 hand 0;road 0 to 1 miles ^0;
                good 2 land places 2 hand 0;road 0 to 1 miles 1;
                good 2 land places 2 hand 0;road 1 to 0 miles 20;
                fault 2 land places 2 hand 0;road 0 to 1 miles ^21;
                fault 2 land places 2 hand 0;road 0 to 1 miles ^000;
                good 2 land places 2 hand 0;road 0 to 1 miles 00020;
                """);
        script.playEach("words of it", """
                fault 1 land places 2 hand 0;road ^to 1 miles 1;
                fault 1 land places 2 hand 0;road 0 ^1 miles 1;
                fault 1 land places 2 hand 0;road 0 ^at 1 miles 1;
                fault 1 land places 2 hand 0;road 0 to ^miles 1;
                fault 1 land places 2 hand 0;road 0 to 1 ^1;
                fault 1 land places 2 hand 0;road 0 to 1 ^;
                fault 1 land places 2 hand 0;road 0 to 1 miles ^;
                fault 1 land places 2 hand 0;road 0 to 1 miles 1 ^likes 0 1;
                fault 1 land places 2 hand 0;road 0 to 1 miles 1 ^1;
                """);
    }

    private static void wheels() {
        script.playEach("rim 0 .. 999", """
                good 2 land places 2 hand 0;wheel rim 0;
                good 2 land places 2 hand 0;wheel rim 999;
                fault 2 land places 2 hand 0;wheel rim ^1000;
                fault 2 land places 2 hand 0;wheel rim ^9990;
                """);
        script.playEach("R a ROAD told ahead", """
                fault 2 land places 2 hand 0;wheel rim 1 likes ^0 1;
                fault 2 land places 2 hand 0;wheel rim 1 likes ^0 1;road 0 to 1 miles 1;
                good 3 land places 2 hand 0;road 0 to 1 miles 1;wheel rim 1 likes 0 1;
                fault 2 land places 2 hand 0;road 0 to 1 miles 1;wheel rim 1 likes ^1 1;
                fault 2 land places 2 hand 0;road 0 to 1 miles 1;wheel rim 1 likes ^1 1;road 0 to 1 miles 1;
                good 4 land places 2 hand 0;road 0 to 1 miles 1;wheel rim 1;road 0 to 1 miles 1;
                good 4 land places 2 hand 0;road 0 to 1 miles 1;road 0 to 1 miles 1;wheel rim 1 likes 1 1 likes 0 1;
                fault 2 land places 2 hand 0;road 0 to 1 miles 1;road 0 to 1 miles 1;wheel rim 1 likes 1 1 likes ^2 1;
                """);
        script.playEach("R up to 7", "good 10 land places 2 hand 0;" + "road 0 to 1 miles 1;".repeat(8) + "wheel rim 1 likes 7 9 likes 0 0;\n"
                + "fault 2 land places 2 hand 0;" + "road 0 to 1 miles 1;".repeat(8) + "wheel rim 1 likes 7 9 likes ^8 0;\n"
                + "fault 2 land places 2 hand 0;" + "road 0 to 1 miles 1;".repeat(7) + "wheel rim 1 likes ^7 9 likes 8 0;\n");
        script.playEach("likes 0 .. 9", """
                good 3 land places 2 hand 0;road 0 to 1 miles 1;wheel rim 1 likes 0 0;
                good 3 land places 2 hand 0;road 0 to 1 miles 1;wheel rim 1 likes 0 9;
                fault 2 land places 2 hand 0;road 0 to 1 miles 1;wheel rim 1 likes 0 ^10;
                fault 2 land places 2 hand 0;road 0 to 1 miles 1;wheel rim 1 likes 0 1 likes 0 ^10;
                fault 2 land places 2 hand 0;road 0 to 1 miles 1;wheel rim 1 likes 0 ^10 likes 0 1;
                """);
        script.playEach("words of it", """
                fault 1 land places 2 hand 0;wheel ^1;
                fault 1 land places 2 hand 0;wheel ^likes 0 1;
                fault 1 land places 2 hand 0;wheel ^;
                fault 1 land places 2 hand 0;wheel rim ^;
                fault 1 land places 2 hand 0;wheel rim ^likes 0 1;
                fault 1 land places 2 hand 0;wheel rim 1 ^1;
                fault 1 land places 2 hand 0;wheel rim 1 ^rim 1;
                fault 1 land places 2 hand 0;wheel rim 1 ^like 0 1;
                fault 1 land places 2 hand 0;road 0 to 1 miles 1;wheel rim 1 likes ^;
                fault 1 land places 2 hand 0;road 0 to 1 miles 1;wheel rim 1 likes ^likes 0 1;
                fault 1 land places 2 hand 0;road 0 to 1 miles 1;wheel rim 1 likes 0 ^;
                fault 1 land places 2 hand 0;road 0 to 1 miles 1;wheel rim 1 likes 0 ^likes 0 1;
                fault 1 land places 2 hand 0;road 0 to 1 miles 1;wheel rim 1 likes 0 1 ^0 1;
                fault 1 land places 2 hand 0;road 0 to 1 miles 1;wheel rim 1 likes 0 1 ^wheel rim 1;
                """);
        script.play("a later one of it strikes; 0 without", """
                good 4 land places 2 hand 0;road 0 to 1 miles 1;road 0 to 1 miles 1;wheel rim 1 likes 0 9 likes 0 3 likes 0 4;
                7 likes(0, 0) = 4 | likes(0, 1) = 0
                good 3 land places 2 hand 0;road 0 to 1 miles 1;wheel rim 1 likes 0 9 likes 0 0;
                7 likes(0, 0) = 0
                """);
        StringBuilder many = new StringBuilder("land places 2 hand 0;road 0 to 1 miles 1;wheel rim 1");
        for (int i = 0; i < 90; i++) many.append(" likes 0 ").append(i % 10);
        script.play("as many likes as one likes", "good 3 " + many + ";\n7 likes(0, 0) = 9");
    }

    private static void carts() {
        script.playEach("WHEELS told ahead", """
                fault 2 land places 2 hand 0;cart at 0 wheels ^0;
                fault 2 land places 2 hand 0;cart at 0 wheels ^0;wheel rim 1;
                good 3 land places 2 hand 0;wheel rim 1;cart at 0 wheels 0;
                fault 2 land places 2 hand 0;wheel rim 1;cart at 0 wheels ^1;
                fault 2 land places 2 hand 0;wheel rim 1;cart at 0 wheels ^1;wheel rim 1;
                fault 2 land places 2 hand 0;wheel rim 1;cart at 0 wheels 0 ^1;
                good 4 land places 2 hand 0;wheel rim 1;wheel rim 1;cart at 0 wheels 1 0;
                """);
        script.playEach("unlike ones, of no other CART", """
                fault 2 land places 2 hand 0;wheel rim 1;cart at 0 wheels 0 ^0;
                fault 2 land places 2 hand 0;wheel rim 1;wheel rim 1;cart at 0 wheels 0 1 ^0;
                fault 2 land places 2 hand 0;wheel rim 1;wheel rim 1;wheel rim 1;cart at 0 wheels 2 0 1 ^1;
                fault 2 land places 2 hand 0;wheel rim 1;cart at 0 wheels 0;cart at 0 wheels ^0;
                fault 2 land places 2 hand 0;wheel rim 1;wheel rim 1;cart at 0 wheels 0;cart at 0 wheels 1 ^0;
                good 5 land places 2 hand 0;wheel rim 1;wheel rim 1;cart at 0 wheels 1;cart at 0 wheels 0;
                """);
        String wheels = "land places 2 hand 0;" + "wheel rim 1;".repeat(8);
        script.playEach("one to four WHEELS", "fault 1 " + wheels + "cart at 0 wheels ^;\n"
                + "good 10 " + wheels + "cart at 0 wheels 7;\n"
                + "good 10 " + wheels + "cart at 0 wheels 7 6;\n"
                + "good 10 " + wheels + "cart at 0 wheels 7 6 0;\n"
                + "good 10 " + wheels + "cart at 0 wheels 7 6 0 1;\n"
                + "fault 3 " + wheels + "cart at 0 wheels 7 6 0 1 ^2;\n"
                + "fault 2 " + wheels + "cart at 0 wheels ^8;\n"
                + "fault 2 " + wheels + "cart at 0 wheels 7 6 0 ^8;\n"
                + "good 11 " + wheels + "cart at 0 wheels 7 6 0 1;cart at 1 wheels 2 3 4 5;\n");
        script.playEach("words of it", """
                fault 1 land places 2 hand 0;wheel rim 1;cart ^0 wheels 0;
                fault 1 land places 2 hand 0;wheel rim 1;cart ^to 0 wheels 0;
                fault 1 land places 2 hand 0;wheel rim 1;cart at ^wheels 0;
                fault 1 land places 2 hand 0;wheel rim 1;cart at 0 ^0;
                fault 1 land places 2 hand 0;wheel rim 1;cart at 0 ^wheel 0;
                fault 1 land places 2 hand 0;wheel rim 1;cart at 0 ^;
                fault 1 land places 2 hand 0;wheel rim 1;cart at 0 wheels ^wheels 0;
                fault 1 land places 2 hand 0;wheel rim 1;cart at 0 wheels 0 ^wheels 0;
                fault 1 land places 2 hand 0;wheel rim 1;cart at 0 wheels 0 ^errand 0 to 0 by 1;
                """);
    }

    private static void errands() {
        String cart = "land places 2 hand 0;wheel rim 1;wheel rim 1;wheel rim 1;cart at 0 wheels 0;";
        script.playEach("C a CART told ahead", """
                fault 2 land places 2 hand 0;errand ^0 to 0 by 1;
                fault 2 land places 2 hand 0;wheel rim 1;errand ^0 to 0 by 1;cart at 0 wheels 0;
                """ + "good 6 " + cart + "errand 0 to 0 by 1;\n"
                + "fault 2 " + cart + "errand ^1 to 0 by 1;\n"
                + "fault 2 " + cart + "errand ^1 to 0 by 1;cart at 0 wheels 1;\n"
                + "good 7 " + cart + "cart at 0 wheels 1;errand 1 to 0 by 1;\n"
                + "good 8 " + cart + "cart at 0 wheels 1;cart at 0 wheels 2;errand 2 to 0 by 1;\n"
                + "fault 2 " + cart + "cart at 0 wheels 1;cart at 0 wheels 2;errand ^3 to 0 by 1;\n");
        script.playEach("by 1 .. 200", "fault 2 " + cart + "errand 0 to 0 by ^0;\n"
                + "good 6 " + cart + "errand 0 to 0 by 1;\n"
                + "good 6 " + cart + "errand 0 to 0 by 200;\n"
                + "fault 2 " + cart + "errand 0 to 0 by ^201;\n");
        script.playEach("words of it", "fault 1 " + cart + "errand ^to 0 by 1;\n"
                + "fault 1 " + cart + "errand 0 ^at 0 by 1;\n"
                + "fault 1 " + cart + "errand 0 ^0 by 1;\n"
                + "fault 1 " + cart + "errand 0 to ^by 1;\n"
                + "fault 1 " + cart + "errand 0 to 0 ^1;\n"
                + "fault 1 " + cart + "errand 0 to 0 ^miles 1;\n"
                + "fault 1 " + cart + "errand 0 to 0 by ^;\n"
                + "fault 1 " + cart + "errand 0 to 0 by 1 ^1;\n"
                + "fault 1 " + cart + "errand 0 to 0 by 1 ^by 1;\n");
    }

    private static void tooMany() {
        String land = "land places 2 hand 0;";
        String roads = land + "road 0 to 1 miles 1;".repeat(8);
        script.playEach("a 9th road, at its word", "good 9 " + roads + "\n"
                + "fault 3 " + roads + "^road 0 to 1 miles 1;\n"
                + "fault 3 " + roads + "\\n ^road\n"
                + "fault 3 " + roads + "^road 9 to 9 miles 99;\n"
                + "fault 3 " + roads + "wheel rim 1;^road 0 to 1 miles 1;\n"
                + "fault 1 " + roads + "^roads 0 to 1 miles 1;\n");
        String wheels = land + "wheel rim 1;".repeat(8);
        script.playEach("a 9th wheel, at its word", "good 9 " + wheels + "\n"
                + "fault 3 " + wheels + "^wheel rim 1;\n"
                + "fault 3 " + wheels + "^wheel @\n"
                + "fault 3 " + wheels + "^wheel rim 1000;\n"
                + "fault 1 " + wheels + "^wheels 1;\n");
        String carts = wheels + "cart at 0 wheels 0;cart at 0 wheels 1;cart at 0 wheels 2;";
        script.playEach("a 4th cart, at its word", "good 12 " + carts + "\n"
                + "fault 3 " + carts + "^cart at 0 wheels 3;\n"
                + "fault 3 " + carts + "^cart\n"
                + "fault 3 " + carts + "^cart at 0 wheels 0;\n");
        String errands = carts + "errand 0 to 0 by 1;".repeat(6);
        script.playEach("a 7th errand, at its word", "good 18 " + errands + "\n"
                + "fault 3 " + errands + "^errand 0 to 0 by 1;\n"
                + "fault 3 " + errands + "^errand 3\n");
        String all = "land places 6 hand 40;" + "road 5 to 4 miles 20;".repeat(8) + "wheel rim 999;".repeat(8)
                + "cart at 5 wheels 0 1 2 3;cart at 5 wheels 4 5;cart at 5 wheels 6 7;" + "errand 2 to 5 by 200;".repeat(6);
        script.playEach("all are full", "good 26 " + all + "\nfault 3 " + all + "^road\nfault 3 " + all + "^wheel\nfault 3 " + all + "^cart\n"
                + "fault 3 " + all + "^errand\nfault 1 " + all + "^land\n");
        script.play("all are full", "good 26 " + all + """

                58 count(0) = 6 | count(1) = 8 | count(2) = 8 | count(3) = 3 | count(4) = 6 | count(5) = 40 | count(6) = 26
                6 road(7, 0) = 5 | road(7, 1) = 4 | road(7, 2) = 20 | road(8, 0) = -2
                8 wheel(7, 0) = 999 | wheel(7, 1) = 2 | wheel(8, 0) = -2
                9 cart(0, 1) = 15 | cart(1, 1) = 48 | cart(2, 1) = 192 | cart(3, 1) = -2
                10 errand(5, 0) = 2 | errand(5, 1) = 5 | errand(5, 2) = 200 | errand(6, 0) = -2
                """);
    }

    private static void fifthWheels() {
        String wheels = "land places 2 hand 0;" + "wheel rim 1;".repeat(7);
        script.playEach("a 5th WHEEL, if it is one that there is, told already or not: 3", ""
                + "fault 3 " + wheels + "cart at 0 wheels 0 1 2 3 ^4;\n"
                + "fault 3 " + wheels + "cart at 0 wheels 0 1 2 3 ^6\n"
                + "fault 3 " + wheels + "cart at 0 wheels 0 1 2 3 ^0;\n"
                + "fault 3 " + wheels + "cart at 0 wheels 0 1 2 3 ^3;\n"
                + "fault 3 " + wheels + "cart at 0 wheels 6;cart at 0 wheels 0 1 2 3 ^6;\n"
                + "fault 3 " + wheels + "cart at 0 wheels 0 1 2 3 ^0004;\n"
                + "fault 3 " + wheels + "cart at 0 wheels 0 1 2 3 ^4 5 6 7 8\n");
        script.playEach("a 5th WHEEL, if there is none such: 2", ""
                + "fault 2 " + wheels + "cart at 0 wheels 0 1 2 3 ^7;\n"
                + "fault 2 " + wheels + "cart at 0 wheels 0 1 2 3 ^8;\n"
                + "fault 2 " + wheels + "cart at 0 wheels 0 1 2 3 ^7;wheel rim 1;\n"
                + "fault 2 " + wheels + "cart at 0 wheels 0 1 2 3 ^4294967296;\n");
        script.playEach("a 5th that is no number: 1", ""
                + "fault 1 " + wheels + "cart at 0 wheels 0 1 2 3 ^wheels 4;\n"
                + "fault 1 " + wheels + "cart at 0 wheels 0 1 2 3 ^@\n"
                + "fault 1 " + wheels + "cart at 0 wheels 0 1 2 3 ^\n");
        script.playEach("a 4th is no 5th", ""
                + "fault 2 " + wheels + "cart at 0 wheels 0 1 2 ^2;\n"
                + "fault 2 " + wheels + "cart at 0 wheels 0 1 ^0 3 4;\n"
                + "fault 2 " + wheels + "cart at 0 wheels 6;cart at 0 wheels 0 1 2 ^6 3;\n");
    }

    private static void tokens() {
        script.playEach("blanks are 32 and 10 alone", """
                good 1 land\\nplaces\\n\\n2\\x20\\x0ahand 0;\\n
                good 1 land places2hand0;
                good 2 land places 2 hand 0;wheel rim0;
                fault 1 land^\\x09places 2 hand 0;
                fault 1 land^\\x0dplaces 2 hand 0;
                fault 1 land^\\x0bplaces 2 hand 0;
                fault 1 land^\\x1fplaces 2 hand 0;
                fault 1 land^\\x21places 2 hand 0;
                fault 1 land^\\x00places 2 hand 0;
                fault 1 land^\\xa0places 2 hand 0;
                fault 1 land^\\x8aplaces 2 hand 0;
                fault 1 land places 2 hand 0;^\\x00
                fault 1 land places 2 hand 0; ^\\x0d\\n
                """);
        script.playEach("words are a .. z", """
                fault 1 ^\\x60land places 2 hand 0;
                fault 1 ^{land places 2 hand 0;
                fault 1 ^Land places 2 hand 0;
                fault 1 ^\\xecand places 2 hand 0;
                fault 1 land ^Places 2 hand 0;
                fault 1 land places^Z 2 hand 0;
                fault 1 land places^_ 2 hand 0;
                fault 1 land places^\\xe9 2 hand 0;
                """);
        script.playEach("numbers are digits", """
                fault 1 land places ^/2 hand 0;
                fault 1 land places ^:2 hand 0;
                fault 1 land places ^+2 hand 0;
                fault 1 land places 2 hand ^-0;
                fault 1 land places 2^.0 hand 0;
                fault 1 land places ^\\xb2 hand 0;
                fault 1 land places 2 hand 0^<
                fault 1 land places 2 hand 0^:
                fault 1 land places 2 hand 0^,
                """);
        script.playEach("the longest", """
                fault 1 ^landz places 2 hand 0;
                fault 1 ^landa places 2 hand 0;
                fault 1 ^zland places 2 hand 0;
                fault 1 ^band places 2 hand 0;
                fault 2 land places ^29 hand 0;
                fault 2 land places ^92 hand 0;
                fault 1 ^landplaces 2 hand 0;
                fault 1 land ^placeshand 2;
                fault 2 land places ^22 hand 0;
                fault 2 land places ^200000000000000000000000000 hand 0;
                fault 2 land places ^4294967298 hand 0;
                fault 2 land places ^18446744073709551618 hand 0;
                fault 2 land places 2 hand ^4294967296;
                fault 2 land places 2 hand ^2147483648;
                good 1 land places 000000000000000000000000000002 hand 000;
                good 1 land places 2 hand 0000000000000000000000000000000000040;
                fault 2 land places 2 hand ^0000000000000000000000000000000000041;
                fault 1 land places 2 ^x2 hand 0;
                fault 1 land places 2^x hand 0;
                fault 1 land places 2 hand 4^o;
                """);
    }

    private static void ends() {
        script.playEach("the end's place", """
                fault 1 land^
                fault 1 land ^
                fault 1 land\\n\\n ^
                fault 1 land places^
                fault 1 land places 2^
                fault 1 land places 2 hand^
                fault 1 land places 2 hand 0^
                fault 1 land places 2 hand 0 \\n \\n^
                fault 1 land places 2 hand 0;road^
                fault 1 land places 2 hand 0;road 0^
                fault 1 land places 2 hand 0;road 0 to^
                fault 1 land places 2 hand 0;road 0 to 1^
                fault 1 land places 2 hand 0;road 0 to 1 miles^
                fault 1 land places 2 hand 0;road 0 to 1 miles 1^
                fault 1 land places 2 hand 0;wheel^
                fault 1 land places 2 hand 0;wheel rim^
                fault 1 land places 2 hand 0;wheel rim 1^
                fault 1 land places 2 hand 0;road 0 to 1 miles 1;wheel rim 1 likes^
                fault 1 land places 2 hand 0;road 0 to 1 miles 1;wheel rim 1 likes 0^
                fault 1 land places 2 hand 0;road 0 to 1 miles 1;wheel rim 1 likes 0 1^
                fault 1 land places 2 hand 0;wheel rim 1;cart^
                fault 1 land places 2 hand 0;wheel rim 1;cart at^
                fault 1 land places 2 hand 0;wheel rim 1;cart at 0^
                fault 1 land places 2 hand 0;wheel rim 1;cart at 0 wheels^
                fault 1 land places 2 hand 0;wheel rim 1;cart at 0 wheels 0^
                fault 1 land places 2 hand 0;wheel rim 1;cart at 0 wheels 0;errand^
                fault 1 land places 2 hand 0;wheel rim 1;cart at 0 wheels 0;errand 0^
                fault 1 land places 2 hand 0;wheel rim 1;cart at 0 wheels 0;errand 0 to^
                fault 1 land places 2 hand 0;wheel rim 1;cart at 0 wheels 0;errand 0 to 0^
                fault 1 land places 2 hand 0;wheel rim 1;cart at 0 wheels 0;errand 0 to 0 by^
                fault 1 land places 2 hand 0;wheel rim 1;cart at 0 wheels 0;errand 0 to 0 by 1^
                """);
    }

    private static void firstOfSeveral() {
        script.playEach("the first by its place", """
                fault 2 land places ^7 hand 41;
                fault 2 land places 2 hand ^41 @
                fault 1 land places ^@ hand 41;
                fault 2 land places 2 hand 0;road ^2 to 2 miles 0;
                fault 2 land places 2 hand 0;road 0 to ^0 miles 0;
                fault 1 land places 2 hand 0;road 0 ^0 to 0 miles 0;
                fault 2 land places 2 hand 0;road 0 to 1 miles ^0 land
                fault 2 land places 2 hand 0;wheel rim ^1000 likes 0 10
                fault 2 land places 2 hand 0;wheel rim 1 likes ^0 10;
                fault 2 land places 2 hand 0;wheel rim 1;cart at ^2 wheels 9;
                fault 2 land places 2 hand 0;wheel rim 1;cart at 0 wheels ^9 9;
                fault 2 land places 2 hand 0;errand ^0 to 9 by 999;
                fault 2 land places 2 hand 0;wheel rim 1;cart at 0 wheels 0;errand 0 to ^9 by 999;
                """);
        script.play("a FAULT is that of the latest land() alone", """
                5 fault(0) = 0 | fault(1) = -1
                fault 1 ^x
                fault 2 land places ^9 hand 0;
                5 fault(0) = 2 | fault(1) = 12 | fault(2) = -1 | fault(-1) = -1 | fault(MAX) = -1 | fault(MIN) = -1
                good 1 land places 2 hand 0;
                5 fault(0) = 0 | fault(1) = -1 | fault(2) = -1 | fault(-1) = -1
                fault 1 land^
                good 0
                5 fault(0) = 0 | fault(1) = -1
                """);
    }

    /** A TOKEN of a good text; a number has bounds. */
    private record Token(String sign, int least, int most) {
        boolean isNumber() {
            return most >= 0;
        }

        boolean isStop() {
            return sign.equals(";");
        }
    }

    private static final List<Token> TOKENS = new ArrayList<>();
    private static final List<String> KINDS = new ArrayList<>();

    private static void add(String kind, String sign, int least, int most) {
        TOKENS.add(new Token(sign, least, most));
        KINDS.add(kind);
    }

    private static void word(String... signs) {
        for (String sign : signs) add("word", sign, -1, -1);
    }

    private static void stop() {
        add("stop", ";", -1, -1);
    }

    private static void number(String kind, int value, int least, int most) {
        add(kind, Integer.toString(value), least, most);
    }

    private static void aRoad(int from, int to, int miles) {
        word("road");
        number("place", from, 0, 5);
        word("to");
        number("place", to, 0, 5);
        word("miles");
        number("plain", miles, 1, 20);
        stop();
    }

    private static void aWheel(int rim, int roads, int... likes) {
        word("wheel", "rim");
        number("plain", rim, 0, 999);
        for (int i = 0; i < likes.length; i += 2) {
            word("likes");
            number("liked", likes[i], 0, roads - 1);
            number("plain", likes[i + 1], 0, 9);
        }
        stop();
    }

    private static void aCart(int place, int wheels, int... seats) {
        word("cart", "at");
        number("plain", place, 0, 5);
        word("wheels");
        for (int seat : seats) number("seat", seat, 0, wheels - 1);
        add("seatstop", ";", -1, -1);
    }

    private static void anErrand(int cart, int carts, int place, int by) {
        word("errand");
        number("plain", cart, 0, carts - 1);
        word("to");
        number("plain", place, 0, 5);
        word("by");
        number("plain", by, 1, 200);
        stop();
    }

    /** Each TOKEN of a LAND struck out, doubled, put in place of another, cut off, out of its bounds. */
    private static void everyToken() {
        word("land", "places");
        number("places", 6, 2, 6);
        word("hand");
        number("plain", 7, 0, 40);
        stop();
        aRoad(0, 1, 4);
        aRoad(5, 4, 20);
        aWheel(9, 2, 1, 5, 0, 7);
        aRoad(2, 3, 1);
        aWheel(999, 3);
        aWheel(0, 3, 2, 1);
        aWheel(1, 3);
        aWheel(1, 3, 0, 0);
        aCart(5, 5, 4);
        anErrand(0, 1, 5, 200);
        aCart(0, 5, 0, 2, 3, 1);
        anErrand(1, 2, 0, 1);
        for (int i = 0; i < TOKENS.size(); i++) tokenAt(i);
    }

    private static void tokenAt(int i) {
        Token token = TOKENS.get(i);
        String kind = KINDS.get(i);
        String sign = token.sign();
        String ahead = joined(0, i);
        String behind = joined(i + 1, TOKENS.size());
        boolean begins = i == 0 || TOKENS.get(i - 1).isStop();
        script.play("cut ahead of TOKEN " + i, begins
                ? "good " + linesAhead(i) + " " + ahead.strip()
                : "fault 1 " + ahead.strip() + "\\x20^");
        for (String bad : new String[] {"@", "zzz", "Road", "\\xff", "\\x5e"}) {
            script.play("no TOKEN in place of " + i, "fault 1 " + ahead + "^" + bad + " " + behind);
            script.play("no TOKEN ahead of " + i, "fault 1 " + ahead + "^" + bad + " " + sign + " " + behind);
        }
        if (kind.equals("word")) {
            wordAt(i, ahead, behind);
        }
        if (token.isNumber()) {
            numberAt(i, ahead, behind);
        } else if (!kind.equals("seatstop")) {
            script.play("a number in place of " + i, "fault 1 " + ahead + "^1 " + behind);
        }
        if (!kind.equals("liked") && !kind.equals("seat")) {
            script.play("TOKEN " + i + " twice", "fault 1 " + ahead + sign + " ^" + sign + " " + behind);
        }
        if (i + 1 < TOKENS.size() && !kind.equals("liked") && !kind.equals("seat") && !sign.equals("likes")) {
            script.play("without TOKEN " + i, "fault 1 " + ahead + "^" + behind);
        }
    }

    /** A word that is another one in its first letter, in its last, by one more, one less. */
    private static void wordAt(int i, String ahead, String behind) {
        String sign = TOKENS.get(i).sign();
        String title = "almost " + sign + ", TOKEN " + i;
        String tail = sign.substring(1);
        String trunk = sign.substring(0, sign.length() - 1);
        for (String almost : new String[] {"z" + tail, "a" + sign, trunk + "q", sign + "a", sign + "z", trunk, tail}) {
            if (almost.equals(sign)) continue;
            script.play(title, "fault 1 " + ahead + "^" + almost + " " + behind);
        }
        if (sign.length() > 3) {
            script.play(title, "fault 1 " + ahead + "^" + sign.charAt(0) + "x" + sign.substring(2) + " " + behind);
        }
        // one that ends in no letter ends there
        script.play(title, "fault 1 " + ahead + sign + "^A " + behind);
    }

    private static void numberAt(int i, String ahead, String behind) {
        Token token = TOKENS.get(i);
        String title = "TOKEN " + i + ", " + token.least() + " .. " + token.most();
        script.play(title, "fault 2 " + ahead + "^" + (token.most() + 1) + " " + behind);
        script.play(title, "fault 2 " + ahead + "^" + (token.most() + 1));
        script.play(title, "fault 2 " + ahead + "^99999999999999999999 " + behind);
        script.play(title, "fault 2 " + ahead + "^4294967296 " + behind);
        if (token.least() > 0) script.play(title, "fault 2 " + ahead + "^" + (token.least() - 1) + " " + behind);
        if (!TOKENS.get(i - 1).isNumber() || !KINDS.get(i).equals("seat")) script.play(title, "fault 1 " + ahead + "^; " + behind);
        if (KINDS.get(i).equals("plain") || KINDS.get(i).equals("liked")) {
            int lines = linesAhead(TOKENS.size());
            script.play(title, "good " + lines + " " + ahead + token.most() + " " + behind);
            script.play(title, "good " + lines + " " + ahead + token.least() + " " + behind);
        }
    }

    private static String joined(int from, int to) {
        StringBuilder out = new StringBuilder();
        for (int i = from; i < to; i++) out.append(TOKENS.get(i).sign()).append(' ');
        return out.toString();
    }

    private static int linesAhead(int i) {
        return (int) TOKENS.subList(0, i).stream().filter(Token::isStop).count();
    }

    /** A TAPE of 1,000 bytes, the last of which count. */
    private static void wholeTape() {
        String land = "land places 2 hand 0";
        script.play("1,000 bytes", "good 1 " + land + " ".repeat(979) + ";");
        script.play("1,000 bytes", "fault 1 " + land + " ".repeat(979) + "^:");
        script.play("1,000 bytes", "fault 1 " + land + " ".repeat(980) + "^");
        script.play("1,000 bytes", "fault 1 " + land + ";" + " ".repeat(978) + "^x");
        script.play("1,000 bytes", "good 2 " + land + ";" + " ".repeat(967) + "wheel rim 9;");
        script.play("1,000 bytes", "fault 1 " + land + ";" + " ".repeat(968) + "wheel rim 9^");
        script.play("1,000 bytes", "fault 2 land places ^" + "9".repeat(988));
        script.play("1,000 bytes", "good 1 land places " + "0".repeat(979) + "2 hand 0;");
        script.play("1,000 bytes", "fault 1 ^" + "z".repeat(1000));
        script.play("1,000 bytes", "fault 1 ^" + ";".repeat(1000));
        script.play("1,000 bytes", "good 0 " + "\\n".repeat(1000));
        StringBuilder likes = new StringBuilder("land places 2 hand 0;road 0 to 1 miles 1;wheel rim 1");
        while (likes.length() < 990) likes.append(" likes 0 ").append(likes.length() % 10);
        script.play("1,000 bytes", "good 3 " + likes + " ".repeat(999 - likes.length()) + ";");
    }
}
