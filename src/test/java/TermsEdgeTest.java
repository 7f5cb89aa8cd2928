/** The edges that the section "Terms" names, sentence by sentence (its TEXTS are in TextEdgeTest). */
public final class TermsEdgeTest {
    private static final String ONE_OF_EACH = "text 'dish 1 2;guest 0'\n";
    private static final int BENT = 0;
    private static final int BILL = 2;
    private static final int BEEN = 3;
    private static final int EATEN = 4;
    private static final String[] KINDS = {"DISH", "PIE", "ROAST", "JOINT", "TRIFLE", "MUTTON", "PEAS"};

    public static void main(String[] args) {
        cutQuotients();
        leastNumber();
        towns();
        sixMeals();
        eightDishes();
        factsOfDishes();
        leftByBent();
        leftByServed();
        leftOfJoint();
        bends();
        costs();
        sixGuests();
        factsOfGuests();
        mealOfBoth();
        toldAhead();
        been();
        billAtMost();
        eatenAtMost();
        servedAtMost();
        bentHeld();
        lastDay();
        draws();
        Script.end();
    }

    // ---- the paragraph on findings

    private static void cutQuotients() {
        int[][] tenths = {{0, 10}, {9, 10}, {10, 11}, {19, 11}, {20, 12}, {89, 18}, {90, 19}, {99, 19}};
        for (int[] t : tenths) {
            Script.says("Quotients are cut: a tenth (cut) of BENT", ONE_OF_EACH, "change(0, 0, 2)",
                "seat(0, 0, " + t[0] + ")", "would(0, 0, 1) = " + t[1]);
        }
    }

    private static void leastNumber() {
        Script.says("of several that would do the least number counts", """
            text 'mutton 1 2 price 5;mutton 1 2 price 3;mutton 1 2 price 3;guest 7;guest 8;guest 9'
            change(0, 5, 0)
            dish(5, 1, 2)
            dish(5, 1, 2)
            dish(5, 1, 2)
            dish(5, 1, 2)
            dish(5, 1, 2)
            dishFor(0, 1) = 1
            dishFor(0, 0) = 0
            kindFor(1, 1) = 0
            change(0, 3, 3)
            dishFor(0, 1) = 0
            # a PIE of 3 costs 1, and so do PEAS
            kindFor(0, 1) = 1
            now(7) = 0
            seat(2, 2, 4)
            seat(1, 2, 4)
            now(7) = 1
            bentFor(0, 1, 1) = 0
            """);
        Script.says("strike: of several the least", """
            text 'roast 1 1;roast 1 1;dish 3 4;guest 35;meal 1 0 1;meal 2 0 2'
            # both roasts carry a BENT of 35 above 50; one of them less does, and so does the dish
            strike(0, 4, 3) = 1
            seat(0, 0, 45)
            strike(0, 4, 3) = 4
            """);
    }

    // ---- 1: towns, the list, dishes, guests

    private static void towns() {
        Script.says("TOWNS 0 to 11", """
            dish(0, 0, 11) = 0
            dish(0, 11, 0) = 1
            dish(0, 12, 0) = BEYOND
            dish(0, 0, 12) = BEYOND
            dish(0, -1, 0) = BEYOND
            dish(0, 0, -1) = BEYOND
            change(0, 1, 11) = 0
            change(0, 1, 12) = BEYOND
            change(0, 1, -1) = BEYOND
            change(0, 1, 0) = 11
            change(0, 2, 0) = 11
            change(0, 2, 12) = BEYOND
            change(0, 2, -1) = BEYOND
            change(0, 2, 11) = 0
            guest(0) = 0
            seat(0, 1, 11) = 0
            seat(0, 1, 12) = BEYOND
            seat(0, 1, -1) = BEYOND
            when(0, 11) = 0
            when(0, 12) = BEYOND
            when(0, 0) = 1
            when(0, -1) = BEYOND
            bentFor(0, 11, 0) = 0
            bentFor(0, 12, 0) = BEYOND
            bentFor(0, 0, 1) = 0
            bentFor(0, -1, 1) = BEYOND
            courses(0, 11) = 0
            courses(0, 12) = BEYOND
            courses(0, 0) = 1
            courses(0, -1) = BEYOND
            strike(0, 0, 1) = 1
            strike(0, -1, 1) = BEYOND
            strike(0, 11, 1) = 0
            strike(0, 12, 1) = BEYOND
            """);
    }

    private static void sixMeals() {
        Script.says("THE LIST: six MEALS, one for DAY modulo 6", """
            text 'mutton 0 0 price 1;mutton 0 0 price 2;mutton 0 0 price 4;mutton 0 0 price 8'
            text 'mutton 0 0 price 16;mutton 0 0 price 32;guest 0'
            text 'meal 0 0 0;meal 1 0 1;meal 2 0 2;meal 3 0 3;meal 4 0 4;meal 5 0 5'
            ahead(0, 2, 6) = 63
            ahead(0, 2, 7) = 64
            go(1) = 1
            go(1) = 3
            go(1) = 7
            go(1) = 15
            go(1) = 31
            ahead(0, 2, 1) = 63
            ahead(0, 2, 2) = 64
            go(1) = 63
            # DAY 6 is for place 0 again
            go(1) = 64
            go(5) = 126
            go(60) = 756
            """);
        Script.says("told as one number, 10 * GUEST and DISH together (0 at first)", """
            listed(0) = 0
            listed(5) = 0
            list(0, 5, 7) = 0
            list(5, 0, 7) = 0
            list(2, 5, 0) = 0
            listed(0) = 57
            listed(5) = 7
            listed(2) = 50
            listed(1) = 0
            """);
        Script.says("0 at first: a MEAL of GUEST 0 and DISH 0, each DAY", """
            dish(5, 3, 4)
            guest(0)
            go(6) = 60
            ofGuest(0, 4) = 6
            """);
    }

    private static void eightDishes() {
        Script.says("DISHES 0, 1, .. (at most 8)", """
            count(1) = 0
            dish(0, 0, 0) = 0
            dish(1, 0, 0) = 1
            dish(2, 0, 0) = 2
            dish(3, 0, 0) = 3
            dish(4, 0, 0) = 4
            dish(5, 0, 0) = 5
            dish(6, 0, 0) = 6
            of(7, 0) = BEYOND
            dish(0, 0, 0) = 7
            of(7, 0) = 0
            of(6, 0) = 6
            dish(0, 0, 0) = FULL
            count(1) = 8
            """);
        Script.says("of KINDS 0 to 6", """
            dish(-1, 0, 0) = BEYOND
            dish(0, 0, 0) = 0
            dish(6, 0, 0) = 1
            dish(7, 0, 0) = BEYOND
            of(0, 0) = 0
            of(1, 0) = 6
            change(0, 0, 6) = 0
            change(0, 0, 7) = BEYOND
            change(0, 0, -1) = BEYOND
            change(0, 0, 0) = 6
            """);
    }

    private static void factsOfDishes() {
        Script.says("a PRICE (0 to 99; 10 at first)", """
            dish(0, 0, 0)
            of(0, 3) = 10
            change(0, 3, 99) = 10
            change(0, 3, 100) = BEYOND
            change(0, 3, 0) = 99
            change(0, 3, -1) = BEYOND
            of(0, 3) = 0
            """);
        Script.says("SERVED (0 to 9999; 0 at first)", """
            dish(0, 0, 0)
            of(0, 4) = 0
            change(0, 4, 9999) = 0
            change(0, 4, 10000) = BEYOND
            change(0, 4, 0) = 9999
            change(0, 4, -1) = BEYOND
            of(0, 4) = 0
            """);
        Script.says("OFF the card or not (1, 0; 0 at first)", """
            dish(0, 0, 0)
            of(0, 5) = 0
            change(0, 5, 1) = 0
            change(0, 5, 2) = BEYOND
            change(0, 5, -1) = BEYOND
            change(0, 5, 0) = 1
            of(0, 5) = 0
            """);
    }

    private static void left(String sentence, int kind, int bent, int served, int want) {
        Script.says(sentence + " (BENT " + bent + ", SERVED " + served + ")", ONE_OF_EACH,
            "change(0, 0, " + kind + ")", "seat(0, 0, " + bent + ")", "change(0, 4, " + served + ")",
            "would(0, 0, 0) = " + want, "would(0, 0, 3) = " + (want == 1 ? 1 : 2),
            "eat(0, 0) = " + (want == 1 ? 1 : 2));
    }

    private static void leftByBent() {
        int[] bents = {0, 1, 29, 30, 31, 48, 49, 50, 51, 98, 99};
        for (int bent : bents) {
            for (int served = 0; served < 2; served++) {
                left("LEFT: DISH: if BENT is below 50", 0, bent, served, bent < 50 ? 1 : 0);
                left("LEFT: PIE: if BENT is even", 1, bent, served, 1 - bent % 2);
                left("LEFT: ROAST: if BENT is below 30", 2, bent, served, bent < 30 ? 1 : 0);
                left("LEFT: MUTTON: yes", 5, bent, served, 1);
            }
        }
    }

    private static void leftByServed() {
        int[] helpings = {0, 1, 2, 3, 9998, 9999};
        for (int served : helpings) {
            int even = 1 - served % 2;
            left("LEFT: PEAS: as a PIE, if SERVED is even, else just if a PIE wouldn't", 6, 0, served, even);
            left("LEFT: PEAS: as a PIE, if SERVED is even, else just if a PIE wouldn't", 6, 98, served, even);
            left("LEFT: PEAS: as a PIE, if SERVED is even, else just if a PIE wouldn't", 6, 1, served, 1 - even);
            left("LEFT: PEAS: as a PIE, if SERVED is even, else just if a PIE wouldn't", 6, 99, served, 1 - even);
            left("LEFT: TRIFLE: if SERVED is even", 4, 0, served, even);
            left("LEFT: TRIFLE: if SERVED is even", 4, 99, served, even);
        }
    }

    private static void leftOfJoint() {
        String sentence = "LEFT: JOINT: as a ROAST, or if another GUEST is for its RIGHT TOWN";
        left(sentence, 3, 0, 1, 1);
        left(sentence, 3, 29, 1, 1);
        left(sentence, 3, 30, 0, 0);
        left(sentence, 3, 99, 0, 0);
        Script.says(sentence, """
            text 'joint 0 11;guest 30 for 11;guest 99 for 0;guest 30 for 10'
            # itself is no other one, and the LEFT TOWN isn't the RIGHT one
            would(0, 0, 0) = 0
            would(1, 0, 0) = 1
            would(2, 0, 0) = 1
            seat(0, 1, 10)
            would(1, 0, 0) = 0
            would(2, 0, 0) = 0
            guest(5) = 3
            guest(5) = 4
            guest(5) = 5
            seat(5, 1, 11)
            would(0, 0, 0) = 1
            would(1, 0, 0) = 1
            would(2, 0, 0) = 1
            seat(5, 0, 99)
            would(5, 0, 0) = 0
            # one that isn't FOR anything yet is FOR 0
            change(0, 2, 0)
            would(0, 0, 0) = 1
            """);
        Script.says("LEFT: TRIFLE, ROAST: not as a JOINT", """
            text 'trifle 1 2 served 1;roast 1 2;guest 50;guest 50 for 2'
            would(0, 0, 0) = 0
            would(0, 1, 0) = 0
            """);
    }

    private static void bend(int kind, int bent, int served, int want) {
        Script.says("BENDS: " + KINDS[kind] + " (BENT " + bent + ", SERVED " + served + ")", ONE_OF_EACH,
            "change(0, 0, " + kind + ")", "seat(0, 0, " + bent + ")", "change(0, 4, " + served + ")",
            "would(0, 0, 2) = " + want);
    }

    private static void bends() {
        bend(0, 0, 0, -5);
        bend(0, 49, 0, -5);
        bend(0, 50, 0, 5);
        bend(0, 99, 0, 5);
        bend(1, 50, 0, -6);
        bend(1, 49, 0, 4);
        bend(6, 50, 0, 1);
        bend(6, 49, 0, 1);
        bend(6, 99, 1, 1);
        bend(2, 29, 0, -10);
        bend(2, 30, 0, 10);
        bend(3, 29, 0, -7);
        bend(3, 30, 0, 13);
        bend(4, 50, 0, 13);
        bend(4, 50, 1, -7);
        bend(5, 0, 0, 0);
        bend(5, 99, 1, 0);
    }

    private static void cost(int kind, int price, int bent, int served, int want) {
        Script.says("COSTS: " + KINDS[kind] + " (PRICE " + price + ", BENT " + bent + ", SERVED " + served + ")",
            ONE_OF_EACH, "change(0, 0, " + kind + ")", "change(0, 3, " + price + ")", "seat(0, 0, " + bent + ")",
            "change(0, 4, " + served + ")", "would(0, 0, 1) = " + want, "eat(0, 0)", "ofGuest(0, 2) = " + want);
    }

    private static void costs() {
        cost(0, 0, 99, 0, 0);
        cost(0, 99, 99, 0, 99);
        // less 2 (0 at least)
        cost(1, 0, 99, 0, 0);
        cost(1, 1, 99, 0, 0);
        cost(1, 2, 99, 0, 0);
        cost(1, 3, 99, 0, 1);
        cost(1, 99, 99, 0, 97);
        cost(6, 0, 99, 0, 1);
        cost(6, 99, 99, 1, 1);
        cost(2, 0, 9, 0, 0);
        cost(2, 0, 10, 0, 1);
        cost(2, 99, 99, 0, 108);
        cost(3, 0, 9, 0, 0);
        cost(3, 0, 19, 0, 2);
        cost(3, 99, 99, 0, 216);
        cost(4, 99, 99, 0, 216);
        cost(4, 99, 99, 1, 108);
        cost(4, 0, 0, 1, 0);
        cost(4, 1, 19, 1, 2);
        cost(5, 0, 99, 0, 0);
        cost(5, 99, 99, 1, 99);
    }

    private static void sixGuests() {
        Script.says("GUESTS 0, 1, .. (at most 6)", """
            count(2) = 0
            guest(0) = 0
            guest(1) = 1
            guest(2) = 2
            guest(3) = 3
            guest(4) = 4
            ofGuest(5, 0) = BEYOND
            guest(99) = 5
            ofGuest(5, 0) = 99
            guest(6) = FULL
            count(2) = 6
            """);
    }

    private static void factsOfGuests() {
        Script.says("each with a BENT (0 to 99)", """
            guest(0) = 0
            guest(99) = 1
            guest(100) = BEYOND
            guest(-1) = BEYOND
            seat(0, 0, 99) = 0
            seat(0, 0, 100) = BEYOND
            seat(0, 0, -1) = BEYOND
            seat(0, 0, 0) = 99
            """);
        Script.says("FOR a TOWN (0 at first)", """
            guest(5)
            ofGuest(0, 1) = 0
            seat(0, 1, 11) = 0
            seat(0, 1, 12) = BEYOND
            seat(0, 1, -1) = BEYOND
            seat(0, 1, 0) = 11
            """);
        Script.says("BILL (0 to 99999; 0 at first)", """
            guest(5)
            ofGuest(0, 2) = 0
            seat(0, 2, 99999) = 0
            seat(0, 2, 100000) = BEYOND
            seat(0, 2, -1) = BEYOND
            seat(0, 2, 0) = 99999
            """);
        Script.says("BEEN (a set, 0 to 4095; none at first)", """
            guest(5)
            ofGuest(0, 3) = 0
            seat(0, 3, 4095) = 0
            seat(0, 3, 4096) = BEYOND
            seat(0, 3, -1) = BEYOND
            seat(0, 3, 0) = 4095
            """);
        Script.says("EATEN (0 to 9999; 0 at first)", """
            guest(5)
            ofGuest(0, 4) = 0
            seat(0, 4, 9999) = 0
            seat(0, 4, 10000) = BEYOND
            seat(0, 4, -1) = BEYOND
            seat(0, 4, 0) = 9999
            """);
    }

    // ---- 2: a meal, a day, draws

    private static void mealOfBoth() {
        Script.says("A MEAL (if there are both, and the DISH isn't OFF); DAY is one more", """
            go(1) = 0
            # no GUEST, no DISH
            count(0) = 1
            dish(5, 3, 4) = 0
            go(1) = 0
            of(0, 4) = 0
            guest(50) = 0
            go(1) = 10
            of(0, 4) = 1
            list(3, 1, 0)
            go(1) = 10
            # GUEST 1 isn't there
            list(4, 0, 1)
            go(1) = 10
            # nor is DISH 1
            of(0, 4) = 1
            ofGuest(0, 4) = 1
            change(0, 5, 1)
            go(1) = 10
            # OFF
            of(0, 4) = 1
            count(0) = 6
            change(0, 5, 0)
            go(1) = 20
            """);
        Script.says("A MEAL in a list of the last GUEST and the last DISH", """
            text 'mutton 1 1;mutton 1 1;mutton 1 1;mutton 1 1;mutton 1 1;mutton 1 1;mutton 1 1'
            text 'guest 0;guest 0;guest 0;guest 0;guest 0;meal 0 5 7;meal 1 5 7;meal 2 5 7'
            go(1) = 0
            guest(0)
            go(1) = 0
            dish(5, 9, 9)
            go(1) = 10
            ofGuest(5, 1) = 9
            of(7, 4) = 1
            """);
    }

    private static void toldAhead() {
        Script.says("all told by BENT, SERVED as they are ahead of it", """
            text 'joint 1 2;trifle 3 4;guest 29;peas 5 6'
            # the JOINT costs by a BENT of 29, not of 22
            eat(0, 0) = 1
            ofGuest(0, 2) = 24
            ofGuest(0, 0) = 22
            # the TRIFLE is taken by the left, as it was SERVED 0 times; it costs by 22, not by 35
            eat(0, 1) = 3
            ofGuest(0, 2) = 48
            ofGuest(0, 0) = 35
            eat(0, 1) = 4
            ofGuest(0, 2) = 61
            ofGuest(0, 0) = 28
            # PEAS: by the left with a BENT of 28, SERVED 0 times
            eat(0, 2) = 5
            ofGuest(0, 0) = 29
            ofGuest(0, 2) = 62
            """);
    }

    private static void been() {
        Script.says("BEEN has that, too", """
            text 'mutton 0 5;mutton 11 5;guest 0 for 7'
            ofGuest(0, 3) = 0
            eat(0, 0) = 0
            ofGuest(0, 3) = 1
            eat(0, 1) = 11
            ofGuest(0, 3) = 2049
            eat(0, 1) = 11
            ofGuest(0, 3) = 2049
            seat(0, 3, 4095)
            eat(0, 0) = 0
            ofGuest(0, 3) = 4095
            """);
    }

    private static void meal(String sentence, int kind, int price, int what, int from, int to) {
        Script.says(sentence + " (from " + from + ")", ONE_OF_EACH, "change(0, 0, " + kind + ")",
            "change(0, 3, " + price + ")", "seat(0, " + what + ", " + from + ")",
            "ahead(0, " + what + ", 1) = " + to, "eat(0, 0)", "ofGuest(0, " + what + ") = " + to);
    }

    private static void billAtMost() {
        String sentence = "BILL is what it COSTS more (99999 at most)";
        meal(sentence, 5, 1, BILL, 99997, 99998);
        meal(sentence, 5, 1, BILL, 99998, 99999);
        meal(sentence, 5, 1, BILL, 99999, 99999);
        meal(sentence, 5, 0, BILL, 99999, 99999);
        meal(sentence, 5, 99, BILL, 99899, 99998);
        meal(sentence, 5, 99, BILL, 99900, 99999);
        meal(sentence, 5, 99, BILL, 99901, 99999);
        meal(sentence, 3, 99, BILL, 99801, 99999);
        meal(sentence, 3, 99, BILL, 99802, 99999);
        Script.says(sentence + ": on the list, too", """
            text 'mutton 1 2 price 99;guest 0'
            seat(0, 2, 99700)
            owes(0, 99999) = 4
            go(3) = 99997
            go(1) = 99999
            go(60) = 99999
            ahead(0, 2, 100) = 99999
            now(1) = 99999
            count(3) = 99999
            """);
    }

    private static void eatenAtMost() {
        String sentence = "EATEN 1 more (9999 at most)";
        meal(sentence, 5, 1, EATEN, 0, 1);
        meal(sentence, 5, 1, EATEN, 9997, 9998);
        meal(sentence, 5, 1, EATEN, 9998, 9999);
        meal(sentence, 5, 1, EATEN, 9999, 9999);
        meal("BEEN: a bit more", 5, 1, BEEN, 0, 2);
        Script.says(sentence + ": on the list, too", """
            text 'mutton 1 2;guest 0'
            seat(0, 4, 9998)
            ahead(0, 4, 100) = 9999
            go(60)
            ofGuest(0, 4) = 9999
            """);
    }

    private static void servedAtMost() {
        Script.says("SERVED of the DISH 1 more (9999 at most)", """
            text 'trifle 1 2 served 9997;guest 0'
            eat(0, 0) = 2
            of(0, 4) = 9998
            eat(0, 0) = 1
            of(0, 4) = 9999
            eat(0, 0) = 2
            of(0, 4) = 9999
            # it stays odd, so it is taken by the right from then on
            eat(0, 0) = 2
            of(0, 4) = 9999
            """);
        Script.says("SERVED (9999 at most): on the list, too", """
            text 'trifle 1 2 served 9998;guest 0'
            served(0, 1) = 9999
            served(0, 2) = 9999
            served(0, 100) = 9999
            go(60)
            of(0, 4) = 9999
            now(4) = 9999
            """);
    }

    private static void held(int kind, int served, int from, int to) {
        Script.says("BENT what it BENDS more (held within 0 to 99): " + KINDS[kind] + " from " + from, ONE_OF_EACH,
            "change(0, 0, " + kind + ")", "change(0, 4, " + served + ")", "seat(0, " + BENT + ", " + from + ")",
            "ahead(0, 0, 1) = " + to, "eat(0, 0)", "ofGuest(0, 0) = " + to);
    }

    private static void bentHeld() {
        int[][] rows = {
            {0, 0, 0, 0}, {0, 0, 4, 0}, {0, 0, 5, 0}, {0, 0, 6, 1}, {0, 0, 93, 98}, {0, 0, 94, 99}, {0, 0, 95, 99},
            {0, 0, 99, 99},
            {1, 0, 0, 0}, {1, 0, 4, 0}, {1, 0, 6, 0}, {1, 0, 8, 2}, {1, 0, 93, 97}, {1, 0, 95, 99}, {1, 0, 97, 99},
            {1, 0, 99, 99},
            {2, 0, 9, 0}, {2, 0, 10, 0}, {2, 0, 11, 1}, {2, 0, 88, 98}, {2, 0, 89, 99}, {2, 0, 90, 99},
            {3, 0, 6, 0}, {3, 0, 7, 0}, {3, 0, 8, 1}, {3, 0, 85, 98}, {3, 0, 86, 99}, {3, 0, 87, 99},
            {4, 0, 85, 98}, {4, 0, 86, 99}, {4, 0, 87, 99}, {4, 1, 6, 0}, {4, 1, 7, 0}, {4, 1, 8, 1},
            {5, 0, 0, 0}, {5, 0, 99, 99},
            {6, 0, 97, 98}, {6, 0, 98, 99}, {6, 0, 99, 99}, {6, 1, 99, 99}};
        for (int[] r : rows) {
            held(r[0], r[1], r[2], r[3]);
        }
    }

    /** DAY 99999 is out of reach within 512 calls of 60 DAYS, so Script puts it there. */
    private static void lastDay() {
        Script.says("DAY is one more (99999 at most)", """
            text 'mutton 1 2 price 1;guest 0'
            day 99939
            go(60) = 60
            count(0) = 99999
            now(0) = 99999
            go(1) = STATE
            coach(1) = STATE
            # it stays on place 3
            list(0, 5, 0)
            ahead(0, 4, 100) = 160
            list(3, 5, 0)
            ahead(0, 4, 100) = 60
            """);
        Script.says("DAY is one more (99999 at most): by a coach", """
            day 99979
            coach(20) = 0
            count(0) = 99999
            day 99998
            coach(1) = 0
            count(0) = 99999
            """);
    }

    private static void draws() {
        Script.says("DRAWS: z is told (1 at first)", "count(6) = 1", "seed(5) = 1");
        int[] seeds = {1, 0, -1, 2, 12345, Integer.MIN_VALUE, Integer.MAX_VALUE, -1000001, 1 << 30, -1 << 24};
        for (int seed : seeds) {
            // In longs, so that nothing of it hangs on an int that wraps around.
            long first = (seed * 1103515245L + 12345) & 0xffffffffL;
            long second = (first * 1103515245L + 12345) & 0xffffffffL;
            ForkInn x = new ForkInn();
            x.seed(seed);
            x.coach(1);
            String sentence = "each makes it z * 1103515245 + 12345 (an int), and gives z >>> 8: from " + seed;
            Script.due(sentence, "count(6)", x.count(6), second > Integer.MAX_VALUE ? second - (1L << 32) : second);
            Script.due(sentence, "listed(0)", x.listed(0), 10 * ((first >> 8) % 6) + (second >> 8) % 8);
        }
    }
}
