/** The edges of a TEXT (Terms, 3, and promises 29 to 31). Script sees to it that a FAULT changes nothing. */
public final class TextEdgeTest {
    private static final String NEW = "";
    private static final String SEVEN_DISHES = "text 'dish 0 0;dish 0 0;dish 0 0;dish 0 0;dish 0 0;dish 0 0;dish 0 0'";
    private static final String FIVE_GUESTS = "text 'guest 0;guest 0;guest 0;guest 0;guest 0'";
    private static final String TEN_MEALS = "meal 0 0 0;".repeat(10);

    public static void main(String[] args) {
        items();
        endsTooEarly();
        everyPrefixOfDish();
        everyPrefixOfGuest();
        everyPrefixOfMeal();
        blanks();
        words();
        numbers();
        everyByte();
        dishTowns();
        priceServedOff();
        guests();
        meals();
        ninthDish();
        seventhGuest();
        nothingOfAFault();
        tapeOf120();
        feed();
        feedFull();
        wipe();
        textEmptiesTape();
        Script.end();
    }

    private static void good(String sentence, String text, int items) {
        Script.reads(sentence, NEW, text, items);
    }

    private static void fault(String sentence, String text, int place) {
        Script.reads(sentence, NEW, text, -1 - place);
    }

    // ---- the form of a text

    private static void items() {
        String s = "TEXT: ITEM { ; ITEM }";
        good(s, "guest 0", 1);
        good(s, "guest 0;guest 0", 2);
        good(s, "guest 0;dish 0 0;meal 0 0 0", 3);
        fault(s, "", 0);
        fault(s, ";", 0);
        fault(s, ";guest 0", 0);
        fault(s, "guest 0;", 8);
        fault(s, "guest 0;;guest 0", 8);
        fault(s, "guest 0;;", 8);
        fault(s, "guest 0 guest 0", 8);
        fault(s, "dish 0 0 dish 0 0", 9);
        fault(s, "meal 0 0 0 meal 0 0 0", 11);
        fault(s, "dish;0 0", 4);
        fault(s, "dish 0;0", 6);
        fault(s, "guest;0", 5);
        fault(s, "meal 0 0;0", 8);
        fault(s, "dish 0 0 price;9", 14);
        fault(s, "dish 0 0 served;9", 15);
        fault(s, "guest 0 for;9", 11);
    }

    private static void endsTooEarly() {
        String s = "how many bytes there are if it ends too early";
        fault(s, "", 0);
        fault(s, " ", 1);
        fault(s, "dish", 4);
        fault(s, "dish   ", 7);
        fault(s, "dish 0", 6);
        fault(s, "dish 0 ", 7);
        fault(s, "dish 0 0 price", 14);
        fault(s, "dish 0 0 price 5 served", 23);
        fault(s, "dish 0 0 served  ", 17);
        fault(s, "guest", 5);
        fault(s, "guest 0 for", 11);
        fault(s, "guest 0 for ", 12);
        fault(s, "meal", 4);
        fault(s, "meal 0", 6);
        fault(s, "meal 0 0", 8);
        fault(s, "meal 0 0 ", 9);
        fault(s, "meal 0 0 0;", 11);
        fault(s, "meal 0 0 0; ", 12);
    }

    /** For each length of a text what text() answers for so much of it. */
    private static void prefixes(String text, int... answers) {
        for (int n = 0; n <= text.length(); n++) {
            Script.reads("the first TOKEN that can't stand there, or how many bytes there are", NEW,
                text.substring(0, n), answers[n]);
        }
    }

    private static void everyPrefixOfDish() {
        prefixes("peas 1 2 price 3 served 4 off",
            -1, -1, -1, -1, -5, -6, -7, -8, 1, 1,
            -10, -10, -10, -10, -15, -16, 1, 1,
            -18, -18, -18, -18, -18, -24, -25, 1, 1,
            -27, -27, 1);
    }

    private static void everyPrefixOfGuest() {
        prefixes("guest 5 for 11;dish", -1, -1, -1, -1, -1, -6, -7, 1, 1, -9, -9, -12, -13, 1, 1, -16, -16, -16, -16, -20);
    }

    private static void everyPrefixOfMeal() {
        prefixes("meal 5 5 7", -1, -1, -1, -1, -5, -6, -7, -8, -9, -10, 1);
    }

    private static void blanks() {
        String s = "blanks may stand between";
        good(s, "guest  0", 1);
        good(s, "guest 0 ;  guest   0", 2);
        good(s, "guest0;guest0", 2);
        good(s, "guest0for0;dish0 0price0served0off;meal0 0 0", 3);
        good(s, " guest 0 ", 1);
        fault(s, "gu est 0", 0);
        fault(s, "dish 0 0 pr ice 5", 9);
        fault(s, "guest 0\t", 7);
        fault(s, "guest\n0", 5);
        fault(s, "\rguest 0", 0);
        fault(s, "guest\u00a00", 5);
        // "1 1" are two NUMBERS: TOWNS 1, 1.
        good(s, "dish 1 1", 1);
        fault(s, "dish 11", 7);
    }

    private static void words() {
        String s = "TOKENS, each as long as can be: WORDS (letters a to z)";
        fault(s, "guests 0", 0);
        fault(s, "dishdish 0 0", 0);
        fault(s, "pea 0 0", 0);
        fault(s, "peass 0 0", 0);
        fault(s, "dish 0 0 prices 5", 9);
        fault(s, "dish 0 0 pric 5", 9);
        fault(s, "dish 0 0 serve 5", 9);
        fault(s, "dish 0 0 offoff", 9);
        fault(s, "dish 0 0 of", 9);
        fault(s, "guest 0 forfor 0", 8);
        fault(s, "guest 0 fo 0", 8);
        fault(s, "zuest 0", 0);
        fault(s, "zie 0 0", 0);
        fault(s, "dish 0 0 zff", 9);
        fault(s, "Guest 0", 0);
        fault(s, "GUEST 0", 0);
        fault(s, "guesT 0", 0);
        String[] kinds = {"dish", "pie", "roast", "joint", "trifle", "mutton", "peas"};
        for (int kind = 0; kind < kinds.length; kind++) {
            Script.says("ITEM: dish, pie, roast, joint, trifle, mutton or peas",
                "text '" + kinds[kind] + " 3 4' = 1", "of(0, 0) = " + kind, "of(0, 1) = 3", "of(0, 2) = 4");
        }
        String[] others = {"price", "served", "off", "for", "soup", "town", "a", "z"};
        for (String other : others) {
            fault("another WORD", other + " 0 0", 0);
        }
    }

    private static void numbers() {
        String s = "NUMBERS (digits, 9999 at most)";
        good(s, "dish 0 0 served 9999", 1);
        fault(s, "dish 0 0 served 10000", 16);
        fault(s, "dish 0 0 served 99999", 16);
        good(s, "dish 00 011 served 009999", 1);
        good(s, "dish 0 0 served " + "0".repeat(80) + "9999", 1);
        fault(s, "dish 0 0 served " + "0".repeat(80) + "10000", 16);
        // What is the same number in 32 or in 64 bits is another one.
        fault(s, "dish 0 0 served 4294967296", 16);
        fault(s, "dish 0 0 served 4294967297", 16);
        fault(s, "dish 0 0 served 18446744073709551617", 16);
        fault(s, "dish 4294967297 0", 5);
        fault(s, "dish 0 0 served " + "9".repeat(100), 16);
        fault(s, "dish -1 0", 5);
        fault(s, "dish +1 0", 5);
        fault(s, "dish 1.0 0", 6);
        fault("the first TOKEN that can't stand there", "12 guest", 0);
        fault("the first TOKEN that can't stand there", "10000", 0);
        fault("the first TOKEN that can't stand there", "guest 0 12345", 8);
    }

    private static void everyByte() {
        for (int b = 0; b < 256; b++) {
            char c = (char) b;
            boolean letter = c >= 'a' && c <= 'z';
            boolean digit = c >= '0' && c <= '9';
            fault("a byte that begins no TOKEN, or ends too early", "" + c, c == ' ' ? 1 : 0);
            // Between two NUMBERS: a blank parts them, a digit makes one of them, nothing else can stand there.
            Script.reads("a byte that begins no TOKEN: " + b, NEW, "dish 5" + c + "5",
                c == ' ' ? 1 : digit ? -6 : -7);
            // Behind a WORD: a letter makes it another one.
            Script.reads("a byte that begins no TOKEN: " + b, NEW, "guest" + c + "7",
                c == ' ' || digit ? 1 : letter ? -1 : -6);
            // Behind all: a digit makes another NUMBER, a SIGN asks for more.
            Script.reads("a byte that begins no TOKEN: " + b, NEW, "guest 7" + c,
                c == ' ' || digit ? 1 : c == ';' ? -9 : -8);
        }
    }

    // ---- the items

    private static void dishTowns() {
        String s = "two NUMBERS (LEFT, RIGHT TOWN)";
        Script.says(s, "text 'pie 0 11' = 1", "of(0, 1) = 0", "of(0, 2) = 11");
        Script.says(s, "text 'pie 11 0' = 1", "of(0, 1) = 11", "of(0, 2) = 0");
        fault(s, "pie 12 0", 4);
        fault(s, "pie 0 12", 6);
        fault(s, "pie 9999 0", 4);
        fault(s, "pie 0 0 0", 8);
        fault(s, "pie off 0", 4);
        fault(s, "pie 0 off", 6);
    }

    private static void priceServedOff() {
        Script.says("perhaps price and a NUMBER (0 to 99)",
            "text 'pie 1 2 price 0;pie 1 2 price 99;pie 1 2' = 3", "of(0, 3) = 0", "of(1, 3) = 99", "of(2, 3) = 10");
        fault("perhaps price and a NUMBER (0 to 99)", "pie 1 2 price 100", 14);
        fault("perhaps price and a NUMBER (0 to 99)", "pie 1 2 price served 5", 14);
        Script.says("perhaps served and a NUMBER (0 to 9999)",
            "text 'pie 1 2 served 0;pie 1 2 served 9999;pie 1 2' = 3", "of(0, 4) = 0", "of(1, 4) = 9999",
            "of(2, 4) = 0");
        fault("perhaps served and a NUMBER (0 to 9999)", "pie 1 2 served 10000", 15);
        fault("perhaps served and a NUMBER (0 to 9999)", "pie 1 2 served off", 15);
        Script.says("perhaps off", "text 'pie 1 2 off;pie 1 2' = 2", "of(0, 5) = 1", "of(1, 5) = 0", "now(6) = 2");
        Script.says("perhaps price, perhaps served, perhaps off", """
            text 'pie 1 2 price 3 served 4 off;pie 1 2 price 3 off;pie 1 2 served 4 off' = 3
            of(0, 3) = 3
            of(0, 4) = 4
            of(0, 5) = 1
            of(1, 3) = 3
            of(1, 4) = 0
            of(1, 5) = 1
            of(2, 3) = 10
            of(2, 4) = 4
            of(2, 5) = 1
            """);
        String s = "perhaps price, perhaps served, perhaps off: in that order, once each";
        fault(s, "pie 1 2 served 4 price 3", 17);
        fault(s, "pie 1 2 off served 4", 12);
        fault(s, "pie 1 2 off price 3", 12);
        fault(s, "pie 1 2 price 3 price 3", 16);
        fault(s, "pie 1 2 served 4 served 4", 17);
        fault(s, "pie 1 2 off off", 12);
        fault(s, "pie 1 2 off 1", 12);
        fault(s, "pie 1 2 for 3", 8);
        fault(s, "pie price 3 1 2", 4);
    }

    private static void guests() {
        Script.says("guest, a NUMBER (BENT, 0 to 99), perhaps for and a NUMBER (a TOWN; 0 without)", """
            text 'guest 0 for 0;guest 99 for 11;guest 50' = 3
            ofGuest(0, 0) = 0
            ofGuest(0, 1) = 0
            ofGuest(1, 0) = 99
            ofGuest(1, 1) = 11
            ofGuest(2, 0) = 50
            ofGuest(2, 1) = 0
            # FOR a TOWN, but not by a MEAL
            ofGuest(1, 3) = 0
            ofGuest(1, 2) = 0
            ofGuest(1, 4) = 0
            """);
        String s = "guest, a NUMBER (BENT, 0 to 99), perhaps for and a NUMBER (a TOWN)";
        fault(s, "guest 100", 6);
        fault(s, "guest for 5", 6);
        fault(s, "guest 5 for 12", 12);
        fault(s, "guest 5 for for", 12);
        fault(s, "guest 5 for 1 for 1", 14);
        fault(s, "guest 5 for 1 1", 14);
        fault(s, "guest 5 price 1", 8);
        fault(s, "guest 5 served 1", 8);
        fault(s, "guest 5 off", 8);
    }

    private static void meals() {
        Script.says("meal, three NUMBERS (a place of THE LIST, 0 to 5, 0 to 5, 0 to 7)", """
            text 'meal 0 5 7;meal 5 0 7;meal 1 5 0;meal 2 0 0' = 4
            listed(0) = 57
            listed(5) = 7
            listed(1) = 50
            listed(2) = 0
            text 'meal 0 1 1;meal 0 2 2' = 2
            listed(0) = 22
            """);
        String s = "meal, three NUMBERS (a place of THE LIST, 0 to 5, 0 to 5, 0 to 7)";
        fault(s, "meal 6 0 0", 5);
        fault(s, "meal 0 6 0", 7);
        fault(s, "meal 0 0 8", 9);
        fault(s, "meal 6 6 8", 5);
        fault(s, "meal 0 6 8", 7);
        fault(s, "meal 0 0 0 0", 11);
        fault(s, "meal 57", 5);
        fault(s, "meal off", 5);
        fault(s, "meal 0 0 0 off", 11);
        fault(s, "meal 0 0 0 for 1", 11);
    }

    private static void ninthDish() {
        String s = "the WORD of a 9th DISH: its own";
        Script.reads(s, SEVEN_DISHES, "pie 0 0", 1);
        Script.reads(s, SEVEN_DISHES, "pie 0 0;pie 0 0", -9);
        Script.reads(s, SEVEN_DISHES, "pie 0 0 ;  pie", -12);
        Script.reads(s, SEVEN_DISHES, "pie 0 0;guest 0;meal 0 0 0;pie 99", -28);
        // A WORD of no DISH is a fault of its own, and so is an eighth that can't be.
        Script.reads(s, SEVEN_DISHES, "pie 0 99;pie 0 0", -7);
        String[] kinds = {"dish", "pie", "roast", "joint", "trifle", "mutton", "peas"};
        for (String kind : kinds) {
            Script.reads(s, SEVEN_DISHES + "\ndish(0, 0, 0) = 7", kind + " 0 0", -1);
            Script.reads(s, SEVEN_DISHES + "\ndish(0, 0, 0) = 7", "guest 0;" + kind, -9);
        }
        good("at most 8 DISHES", "dish 0 0;dish 0 0;dish 0 0;dish 0 0;dish 0 0;dish 0 0;dish 0 0;dish 0 0", 8);
        fault(s, "dish 0 0;dish 0 0;dish 0 0;dish 0 0;dish 0 0;dish 0 0;dish 0 0;dish 0 0;dish 0 0", 72);
        Script.reads("8 DISHES: GUESTS and MEALS still come", SEVEN_DISHES + "\ndish(0, 0, 0) = 7",
            "guest 0;meal 0 0 0", 2);
    }

    private static void seventhGuest() {
        String s = "the WORD of a 7th GUEST: its own";
        Script.reads(s, FIVE_GUESTS, "guest 0", 1);
        Script.reads(s, FIVE_GUESTS, "guest 0;guest 0", -9);
        Script.reads(s, FIVE_GUESTS, "guest 0 ; guest", -11);
        Script.reads(s, FIVE_GUESTS + "\nguest(0) = 5", "guest 0", -1);
        Script.reads(s, FIVE_GUESTS + "\nguest(0) = 5", "dish 0 0;guest 100", -10);
        good("at most 6 GUESTS", "guest 0;guest 0;guest 0;guest 0;guest 0;guest 0", 6);
        fault(s, "guest 0;guest 0;guest 0;guest 0;guest 0;guest 0;guest 0", 48);
        Script.reads("6 GUESTS: DISHES and MEALS still come", FIVE_GUESTS + "\nguest(0) = 5", "dish 0 0;meal 0 0 0", 2);
    }

    // ---- the tape

    private static void nothingOfAFault() {
        Script.says("With a FAULT: -1 less the FAULT (nothing changes but that THE TAPE is empty; no finding)", """
            text 'pie 1 2;guest 3 for 4;meal 1 2 3' = 3
            hold(3, 0)
            seed(77)
            tell 1 16: 5 6
            image()
            text 'roast 5 6;guest 7 for 8;meal 1 5 7;meal 9 9 9' = -41
            count(1) = 1
            count(2) = 1
            listed(1) = 23
            count(5) = 0
            wipe() = 0
            status(-1) = 0
            text 'roast 5 6;guest 7 for 8;meal 1 5 7;meal 0 0 0' = 4
            of(1, 1) = 5
            ofGuest(1, 1) = 8
            listed(1) = 57
            """);
        // What a faulty text had begun doesn't show in the next new ones.
        Script.says("With a FAULT nothing changes: the next new DISH and GUEST are as at first", """
            text 'roast 5 6 price 7 served 8 off;guest 9 for 10;soup' = -47
            dish(0, 1, 2) = 0
            of(0, 0) = 0
            of(0, 1) = 1
            of(0, 2) = 2
            of(0, 3) = 10
            of(0, 4) = 0
            of(0, 5) = 0
            guest(3) = 0
            ofGuest(0, 0) = 3
            ofGuest(0, 1) = 0
            """);
    }

    private static void tapeOf120() {
        String s = "THE TAPE (bytes, at most 120)";
        Script.reads(s, NEW, TEN_MEALS + "guest 0099", 11);
        Script.reads(s, NEW, TEN_MEALS + "guest 0100", -117);
        Script.reads(s, NEW, TEN_MEALS + "guest 99 ;", -121);
        Script.reads(s, NEW, TEN_MEALS + "guest 99 f", -120);
        Script.reads(s, NEW, TEN_MEALS + "guest     ", -121);
        Script.reads(s, NEW, TEN_MEALS + "dish 1 2  ", 11);
        Script.reads(s, NEW, " ".repeat(120), -121);
        Script.reads(s, NEW, ";".repeat(120), -1);
        Script.reads(s, NEW, "a".repeat(120), -1);
        Script.reads(s, NEW, "9".repeat(120), -1);
        Script.reads(s, NEW, "guest " + "0".repeat(114), 1);
        Script.reads(s, NEW, " ".repeat(113) + "guest 7", 1);
        Script.reads(s, NEW, " ".repeat(112) + "guest 77", 1);
        Script.reads(s, NEW, "meal0 0 0;".repeat(11) + "meal 0 0 0", 12);
    }

    private static void feed() {
        Script.says("feed: the n lowest bytes of a number, the highest of these first (n 1 to 4): how many it has", """
            # of 0x67756573 "gues", of 0x5a5a5a74 "t", of 0x5a5a2034 " 4", of 0x5a203b20 " ; "
            feed(1735746931, 4) = 4
            feed(1515870836, 1) = 5
            feed(1515855924, 2) = 7
            feed(1512061728, 3) = 10
            # of 0x00006469 four bytes: two of them 0, which begin no TOKEN
            feed(25705, 4) = 14
            text() = -11
            feed(1735746931, 4) = 4
            feed(1515870836, 1) = 5
            feed(1515855924, 2) = 7
            text() = 1
            ofGuest(0, 0) = 4
            feed(0, 0) = BEYOND
            feed(0, 5) = BEYOND
            feed(0, -1) = BEYOND
            count(5) = 0
            """);
        Script.says("feed: numbers below 0, too", """
            feed(-1, 4) = 4
            feed(MIN, 1) = 5
            feed(-100, 3) = 8
            text() = -1
            """);
    }

    private static void feedFull() {
        String nearly = "tape '" + TEN_MEALS + "guest '\n";
        Script.says("feed: FULL", nearly, """
            count(5) = 116
            feed(808464441, 4) = 120
            feed(48, 1) = FULL
            feed(48, 4) = FULL
            count(5) = 120
            text() = 11
            ofGuest(0, 0) = 9
            feed(48, 1) = 1
            """);
        Script.says("feed: FULL: not a part of it either", nearly, """
            feed(57, 1) = 117
            feed(808464441, 4) = FULL
            count(5) = 117
            feed(3158064, 3) = 120
            feed(48, 1) = FULL
            feed(48, 2) = FULL
            feed(48, 3) = FULL
            text() = -117
            """);
        Script.says("feed: FULL: 118 and 119", nearly, """
            feed(8248, 2) = 118
            feed(0, 3) = FULL
            feed(0, 4) = FULL
            feed(32, 1) = 119
            feed(0, 2) = FULL
            feed(32, 1) = 120
            text() = 11
            ofGuest(0, 0) = 8
            """);
    }

    private static void wipe() {
        Script.says("wipe: THE TAPE is empty: how many it had", """
            wipe() = 0
            feed(0, 1) = 1
            wipe() = 1
            wipe() = 0
            count(5) = 0
            text() = -1
            """);
        Script.says("wipe: THE TAPE is empty: of 120, too", "tape '" + TEN_MEALS + "guest 0099'", """
            wipe() = 120
            count(5) = 0
            feed(0, 4) = 4
            """);
    }

    private static void textEmptiesTape() {
        Script.says("text: THE TAPE is a TEXT, and empty then", """
            tape 'guest 5'
            count(5) = 7
            text() = 1
            count(5) = 0
            text() = -1
            count(2) = 1
            tape 'soup'
            text() = -1
            count(5) = 0
            """);
    }
}
