import java.lang.reflect.Field;
import java.nio.charset.StandardCharsets;

/** A check or more for each promise of the document: ordinary inputs, its edges, wrong inputs. */
public final class PromiseTest {
    private static final int BEYOND = -1000001;
    private static final int FULL = -1000002;
    private static final int KIND = -1000003;
    private static final int NONE = -1000004;
    private static final int STATE = -1000005;
    private static final int MISSING = -1000006;
    private static final int SIZE = -1000007;

    private static final int DISH = 0;
    private static final int PIE = 1;
    private static final int ROAST = 2;
    private static final int JOINT = 3;
    private static final int TRIFLE = 4;
    private static final int MUTTON = 5;
    private static final int PEAS = 6;

    private static int wrong = 0;
    private static int checks = 0;
    private static int promise = 0;

    private static void due(String call, long got, long want) {
        checks++;
        if (got != want) {
            wrong++;
            System.out.println("promise " + promise + ": " + call + " answered " + got + ", due is " + want);
        }
    }

    public static void main(String[] args) {
        newObject();
        list();
        listed();
        dish();
        guest();
        of();
        change();
        ofGuest();
        seat();
        wouldLeft();
        wouldCost();
        wouldBend();
        wouldTown();
        eat();
        go();
        now();
        ahead();
        served();
        when();
        owes();
        part();
        dishFor();
        kindFor();
        bentFor();
        courses();
        strike();
        fits();
        kinds();
        coach();
        odds();
        seed();
        feed();
        wipe();
        text();
        textFaults();
        hold();
        as();
        sheet();
        write();
        copy();
        load();
        judge();
        image();
        undo();
        tear();
        count();
        status();
        System.out.println(checks + " checks, " + wrong + " wrong");
        if (wrong != 0) {
            System.exit(1);
        }
    }

    // ---- what the tests share

    /** Puts a text on the tape, one byte a call. */
    private static void tape(ForkInn x, String text) {
        byte[] bytes = text.getBytes(StandardCharsets.ISO_8859_1);
        for (byte b : bytes) {
            x.feed(b, 1);
        }
    }

    private static int read(ForkInn x, String text) {
        tape(x, text);
        return x.text();
    }

    /** An inn from texts, each short enough for the tape. */
    private static ForkInn inn(String... texts) {
        ForkInn x = new ForkInn();
        for (String text : texts) {
            if (read(x, text) < 1) {
                throw new IllegalStateException("the test's own text is faulty: " + text);
            }
        }
        return x;
    }

    /** A sheet of 8 bits with these numbers. */
    private static void tell(ForkInn x, int s, int... numbers) {
        x.sheet(s, 8, numbers.length);
        for (int i = 0; i < numbers.length; i++) {
            x.write(s, i, numbers[i]);
        }
    }

    /** All that count(), now(), the dishes and guests, the list and the spots show, as one text. */
    private static String seen(ForkInn x) {
        StringBuilder all = new StringBuilder();
        for (int what = 0; what < 8; what++) {
            all.append(x.count(what)).append(' ').append(x.now(what)).append(' ');
        }
        for (int d = 0; d < x.count(1); d++) {
            for (int what = 0; what < 6; what++) {
                all.append(x.of(d, what)).append(' ');
            }
        }
        for (int g = 0; g < x.count(2); g++) {
            for (int what = 0; what < 5; what++) {
                all.append(x.ofGuest(g, what)).append(' ');
            }
        }
        for (int i = 0; i < 6; i++) {
            all.append(x.listed(i)).append(' ');
        }
        return all.toString();
    }

    private static void same(String what, String got, String want) {
        due(what + " leaves all as it was (" + got + ")", got.equals(want) ? 1 : 0, 1);
    }

    // ---- inn

    private static void newObject() {
        promise = 1;
        ForkInn x = new ForkInn();
        int[] counts = {0, 0, 0, 0, 0, 0, 1, 0};
        int[] nows = {0, 0, 0, 0, 0, 0, 0, -1};
        for (int what = 0; what < 8; what++) {
            due("count(" + what + ")", x.count(what), counts[what]);
            due("now(" + what + ")", x.now(what), nows[what]);
        }
        for (int i = 0; i < 6; i++) {
            due("listed(" + i + ")", x.listed(i), 0);
        }
        due("status(-1)", x.status(-1), 0);
        due("text()", x.text(), -1);
        due("wipe()", x.wipe(), 0);
        due("of(0, 0)", x.of(0, 0), BEYOND);
        due("ofGuest(0, 0)", x.ofGuest(0, 0), BEYOND);
        for (int s = 0; s < 4; s++) {
            due("judge(" + s + ")", x.judge(s), MISSING);
        }
        for (int spot = 0; spot < 10; spot++) {
            due("as(" + spot + ", 0)", x.as(spot, 0), MISSING);
        }
        due("undo()", x.undo(), NONE);
        due("tear()", x.tear(), 0);
        ForkInn y = new ForkInn();
        x.guest(5);
        due("another object's count(2)", y.count(2), 0);
    }

    private static void list() {
        promise = 2;
        ForkInn x = new ForkInn();
        due("list(0, 5, 7)", x.list(0, 5, 7), 0);
        due("list(5, 0, 3)", x.list(5, 0, 3), 0);
        due("list(0, 0, 0)", x.list(0, 0, 0), 57);
        due("list(5, 2, 0)", x.list(5, 2, 0), 3);
        due("list(5, 2, 0)", x.list(5, 2, 0), 20);
        int[][] beyond = {{-1, 0, 0}, {6, 0, 0}, {0, -1, 0}, {0, 6, 0}, {0, 0, -1}, {0, 0, 8},
            {Integer.MIN_VALUE, 0, 0}, {5, Integer.MAX_VALUE, 0}, {5, 0, Integer.MAX_VALUE}};
        for (int[] c : beyond) {
            due("list(" + c[0] + ", " + c[1] + ", " + c[2] + ")", x.list(c[0], c[1], c[2]), BEYOND);
        }
        due("listed(0)", x.listed(0), 0);
        due("listed(5)", x.listed(5), 20);
    }

    private static void listed() {
        promise = 3;
        ForkInn x = new ForkInn();
        for (int i = 0; i < 6; i++) {
            x.list(i, 5 - i, i + 1);
        }
        for (int i = 0; i < 6; i++) {
            due("listed(" + i + ")", x.listed(i), 10 * (5 - i) + i + 1);
        }
        due("listed(-1)", x.listed(-1), BEYOND);
        due("listed(6)", x.listed(6), BEYOND);
    }

    private static void dish() {
        promise = 4;
        ForkInn x = new ForkInn();
        due("dish(7, 0, 0)", x.dish(7, 0, 0), BEYOND);
        due("dish(-1, 0, 0)", x.dish(-1, 0, 0), BEYOND);
        due("dish(0, -1, 0)", x.dish(0, -1, 0), BEYOND);
        due("dish(0, 12, 0)", x.dish(0, 12, 0), BEYOND);
        due("dish(0, 0, -1)", x.dish(0, 0, -1), BEYOND);
        due("dish(0, 0, 12)", x.dish(0, 0, 12), BEYOND);
        due("count(1)", x.count(1), 0);
        for (int d = 0; d < 8; d++) {
            due("dish " + d, x.dish(d % 7, d, 11 - d), d);
        }
        for (int d = 0; d < 8; d++) {
            int[] facts = {d % 7, d, 11 - d, 10, 0, 0};
            for (int what = 0; what < 6; what++) {
                due("of(" + d + ", " + what + ")", x.of(d, what), facts[what]);
            }
        }
        due("dish(0, 11, 0) when full", x.dish(0, 11, 0), FULL);
        due("dish(7, 0, 0) when full", x.dish(7, 0, 0), BEYOND);
        due("count(1)", x.count(1), 8);
    }

    private static void guest() {
        promise = 5;
        ForkInn x = new ForkInn();
        due("guest(-1)", x.guest(-1), BEYOND);
        due("guest(100)", x.guest(100), BEYOND);
        int[] bents = {0, 99, 1, 50, 30, 7};
        for (int g = 0; g < 6; g++) {
            due("guest(" + bents[g] + ")", x.guest(bents[g]), g);
        }
        for (int g = 0; g < 6; g++) {
            int[] facts = {bents[g], 0, 0, 0, 0};
            for (int what = 0; what < 5; what++) {
                due("ofGuest(" + g + ", " + what + ")", x.ofGuest(g, what), facts[what]);
            }
        }
        due("guest(3) when full", x.guest(3), FULL);
        due("guest(100) when full", x.guest(100), BEYOND);
        due("count(2)", x.count(2), 6);
    }

    private static void of() {
        promise = 6;
        ForkInn x = inn("joint 11 4 price 33 served 44 off; pie 1 2");
        int[][] facts = {{JOINT, 11, 4, 33, 44, 1}, {PIE, 1, 2, 10, 0, 0}};
        for (int d = 0; d < 2; d++) {
            for (int what = 0; what < 6; what++) {
                due("of(" + d + ", " + what + ")", x.of(d, what), facts[d][what]);
            }
        }
        due("of(2, 0)", x.of(2, 0), BEYOND);
        due("of(-1, 0)", x.of(-1, 0), BEYOND);
        due("of(0, -1)", x.of(0, -1), BEYOND);
        due("of(0, 6)", x.of(0, 6), BEYOND);
    }

    private static void change() {
        promise = 7;
        ForkInn x = inn("pie 1 2 price 33 served 44; peas 5 6");
        int[] was = {PIE, 1, 2, 33, 44, 0};
        int[] tops = {6, 11, 11, 99, 9999, 1};
        for (int what = 0; what < 6; what++) {
            String c = "change(0, " + what + ", ";
            due(c + "-1)", x.change(0, what, -1), BEYOND);
            due(c + "top + 1)", x.change(0, what, tops[what] + 1), BEYOND);
            due(c + "top)", x.change(0, what, tops[what]), was[what]);
            due("of(0, " + what + ")", x.of(0, what), tops[what]);
            due(c + "0)", x.change(0, what, 0), tops[what]);
            due(c + "was)", x.change(0, what, was[what]), 0);
        }
        due("change(2, 0, 0)", x.change(2, 0, 0), BEYOND);
        due("change(-1, 0, 0)", x.change(-1, 0, 0), BEYOND);
        due("change(0, 6, 0)", x.change(0, 6, 0), BEYOND);
        due("change(0, -1, 0)", x.change(0, -1, 0), BEYOND);
        int[] other = {PEAS, 5, 6, 10, 0, 0};
        for (int what = 0; what < 6; what++) {
            due("of(0, " + what + ") after all", x.of(0, what), was[what]);
            due("of(1, " + what + ") after all", x.of(1, what), other[what]);
        }
    }

    private static void ofGuest() {
        promise = 8;
        ForkInn x = inn("guest 40 for 3; guest 60; mutton 7 8 price 20");
        x.eat(1, 0);
        x.eat(1, 0);
        int[][] facts = {{40, 3, 0, 0, 0}, {60, 7, 40, 128, 2}};
        for (int g = 0; g < 2; g++) {
            for (int what = 0; what < 5; what++) {
                due("ofGuest(" + g + ", " + what + ")", x.ofGuest(g, what), facts[g][what]);
            }
        }
        due("ofGuest(2, 0)", x.ofGuest(2, 0), BEYOND);
        due("ofGuest(-1, 0)", x.ofGuest(-1, 0), BEYOND);
        due("ofGuest(0, 5)", x.ofGuest(0, 5), BEYOND);
        due("ofGuest(0, -1)", x.ofGuest(0, -1), BEYOND);
    }

    private static void seat() {
        promise = 9;
        ForkInn x = inn("guest 40 for 3; guest 60");
        int[] was = {40, 3, 0, 0, 0};
        int[] tops = {99, 11, 99999, 4095, 9999};
        for (int what = 0; what < 5; what++) {
            String c = "seat(0, " + what + ", ";
            due(c + "-1)", x.seat(0, what, -1), BEYOND);
            due(c + "top + 1)", x.seat(0, what, tops[what] + 1), BEYOND);
            due(c + "top)", x.seat(0, what, tops[what]), was[what]);
            due("ofGuest(0, " + what + ")", x.ofGuest(0, what), tops[what]);
            due(c + "0)", x.seat(0, what, 0), tops[what]);
            due(c + "was)", x.seat(0, what, was[what]), 0);
        }
        due("seat(2, 0, 0)", x.seat(2, 0, 0), BEYOND);
        due("seat(-1, 0, 0)", x.seat(-1, 0, 0), BEYOND);
        due("seat(0, 5, 0)", x.seat(0, 5, 0), BEYOND);
        due("seat(0, -1, 0)", x.seat(0, -1, 0), BEYOND);
        int[] other = {60, 0, 0, 0, 0};
        for (int what = 0; what < 5; what++) {
            due("ofGuest(0, " + what + ") after all", x.ofGuest(0, what), was[what]);
            due("ofGuest(1, " + what + ") after all", x.ofGuest(1, what), other[what]);
        }
    }

    private static void left(ForkInn x, int kind, int bent, int served, int want) {
        x.change(0, 0, kind);
        x.change(0, 4, served);
        x.seat(0, 0, bent);
        due("left of kind " + kind + ", bent " + bent + ", served " + served, x.would(0, 0, 0), want);
    }

    private static void wouldLeft() {
        promise = 10;
        ForkInn x = inn("dish 1 2; guest 0");
        left(x, DISH, 0, 0, 1);
        left(x, DISH, 49, 1, 1);
        left(x, DISH, 50, 0, 0);
        left(x, PIE, 98, 1, 1);
        left(x, PIE, 1, 0, 0);
        left(x, PEAS, 2, 0, 1);
        left(x, PEAS, 3, 0, 0);
        left(x, PEAS, 2, 1, 0);
        left(x, PEAS, 3, 9999, 1);
        left(x, ROAST, 29, 1, 1);
        left(x, ROAST, 30, 0, 0);
        left(x, JOINT, 29, 1, 1);
        left(x, JOINT, 30, 0, 0);
        left(x, TRIFLE, 99, 0, 1);
        left(x, TRIFLE, 0, 1, 0);
        left(x, MUTTON, 99, 1, 1);
        x.seat(0, 1, 2);
        left(x, JOINT, 30, 0, 0);
        x.guest(9);
        x.seat(1, 1, 1);
        left(x, JOINT, 30, 0, 0);
        x.seat(1, 1, 2);
        left(x, JOINT, 30, 0, 1);
        left(x, ROAST, 30, 0, 0);
        left(x, TRIFLE, 0, 1, 0);
        x.change(0, 0, JOINT);
        x.seat(1, 0, 30);
        due("would(1, 0, 0): guest 0 is for the right town", x.would(1, 0, 0), 1);
        x.seat(0, 1, 1);
        due("would(1, 0, 0): guest 0 is for the left town", x.would(1, 0, 0), 0);
        due("would(2, 0, 0)", x.would(2, 0, 0), BEYOND);
        due("would(-1, 0, 0)", x.would(-1, 0, 0), BEYOND);
        due("would(0, 1, 0)", x.would(0, 1, 0), BEYOND);
        due("would(0, -1, 0)", x.would(0, -1, 0), BEYOND);
        due("would(0, 0, -1)", x.would(0, 0, -1), BEYOND);
        due("would(0, 0, 4)", x.would(0, 0, 4), BEYOND);
    }

    private static void cost(ForkInn x, int kind, int price, int bent, int served, int want) {
        x.change(0, 0, kind);
        x.change(0, 3, price);
        x.change(0, 4, served);
        x.seat(0, 0, bent);
        due("cost of kind " + kind + ", price " + price + ", bent " + bent + ", served " + served,
            x.would(0, 0, 1), want);
    }

    private static void wouldCost() {
        ForkInn x = inn("dish 1 2; guest 0");
        cost(x, DISH, 0, 99, 0, 0);
        cost(x, DISH, 99, 99, 0, 99);
        cost(x, PIE, 10, 99, 0, 8);
        cost(x, PIE, 3, 99, 0, 1);
        cost(x, PIE, 2, 99, 0, 0);
        cost(x, PIE, 1, 99, 0, 0);
        cost(x, PIE, 0, 99, 0, 0);
        cost(x, PEAS, 0, 99, 0, 1);
        cost(x, PEAS, 99, 99, 1, 1);
        cost(x, ROAST, 10, 9, 0, 10);
        cost(x, ROAST, 10, 10, 0, 11);
        cost(x, ROAST, 10, 99, 0, 19);
        cost(x, JOINT, 10, 9, 0, 20);
        cost(x, JOINT, 10, 39, 0, 26);
        cost(x, TRIFLE, 10, 39, 0, 26);
        cost(x, TRIFLE, 10, 39, 1, 13);
        cost(x, MUTTON, 17, 99, 0, 17);
        x.change(0, 5, 1);
        cost(x, MUTTON, 18, 99, 0, 18);
    }

    private static void bend(ForkInn x, int kind, int bent, int served, int want) {
        x.change(0, 0, kind);
        x.change(0, 4, served);
        x.seat(0, 0, bent);
        due("bend of kind " + kind + ", bent " + bent + ", served " + served, x.would(0, 0, 2), want);
    }

    private static void wouldBend() {
        ForkInn x = inn("dish 1 2; guest 0");
        bend(x, DISH, 0, 0, -5);
        bend(x, DISH, 99, 0, 5);
        bend(x, PIE, 0, 0, -6);
        bend(x, PIE, 99, 0, 4);
        bend(x, PEAS, 0, 0, 1);
        bend(x, PEAS, 1, 0, 1);
        bend(x, ROAST, 0, 0, -10);
        bend(x, ROAST, 99, 0, 10);
        bend(x, JOINT, 0, 0, -7);
        bend(x, JOINT, 99, 0, 13);
        bend(x, TRIFLE, 0, 0, 13);
        bend(x, TRIFLE, 99, 1, -7);
        bend(x, MUTTON, 50, 0, 0);
    }

    private static void wouldTown() {
        ForkInn x = inn("dish 7 9 off; guest 49; guest 50; dish 3 2");
        due("would(0, 0, 3)", x.would(0, 0, 3), 7);
        due("would(1, 0, 3)", x.would(1, 0, 3), 9);
        due("would(0, 1, 3)", x.would(0, 1, 3), 3);
        due("would(1, 1, 3)", x.would(1, 1, 3), 2);
        String before = seen(x);
        x.would(1, 1, 0);
        x.would(1, 1, 1);
        x.would(1, 1, 2);
        same("would", seen(x), before);
    }

    private static void eat() {
        promise = 11;
        ForkInn x = inn("roast 3 5 price 7; guest 28; guest 31; dish 0 0 off");
        due("eat(0, 0)", x.eat(0, 0), 3);
        int[] after = {18, 3, 9, 8, 1};
        for (int what = 0; what < 5; what++) {
            due("ofGuest(0, " + what + ")", x.ofGuest(0, what), after[what]);
        }
        due("of(0, 4)", x.of(0, 4), 1);
        due("eat(1, 0)", x.eat(1, 0), 5);
        int[] other = {41, 5, 10, 32, 1};
        for (int what = 0; what < 5; what++) {
            due("ofGuest(1, " + what + ")", x.ofGuest(1, what), other[what]);
            due("ofGuest(0, " + what + ")", x.ofGuest(0, what), after[what]);
        }
        due("count(0)", x.count(0), 0);
        String before = seen(x);
        due("eat(0, 1)", x.eat(0, 1), STATE);
        due("eat(2, 1)", x.eat(2, 1), BEYOND);
        due("eat(-1, 0)", x.eat(-1, 0), BEYOND);
        due("eat(0, 2)", x.eat(0, 2), BEYOND);
        due("eat(0, -1)", x.eat(0, -1), BEYOND);
        same("a finding of eat", seen(x), before);
        x.change(1, 5, 0);
        due("eat(0, 1) on the card again", x.eat(0, 1), 0);
        due("ofGuest(0, 3)", x.ofGuest(0, 3), 9);
        eatAtTheTops();
    }

    private static void eatAtTheTops() {
        ForkInn x = inn("mutton 1 2 price 99; guest 50; trifle 3 4; dish 5 6; roast 7 8");
        x.seat(0, 2, 99900);
        x.seat(0, 4, 9998);
        x.change(0, 4, 9998);
        x.eat(0, 0);
        due("BILL", x.ofGuest(0, 2), 99999);
        due("EATEN", x.ofGuest(0, 4), 9999);
        due("SERVED", x.of(0, 4), 9999);
        x.eat(0, 0);
        due("BILL at its top", x.ofGuest(0, 2), 99999);
        due("EATEN at its top", x.ofGuest(0, 4), 9999);
        due("SERVED at its top", x.of(0, 4), 9999);
        x.seat(0, 0, 96);
        due("eat(0, 1)", x.eat(0, 1), 3);
        due("BENT at its top", x.ofGuest(0, 0), 99);
        x.seat(0, 0, 4);
        due("eat(0, 2)", x.eat(0, 2), 5);
        due("BENT at its bottom", x.ofGuest(0, 0), 0);
        // The cost of a roast is told by the bent ahead of the meal.
        x.seat(0, 2, 0);
        x.seat(0, 0, 90);
        due("eat(0, 3)", x.eat(0, 3), 8);
        due("BILL of a roast", x.ofGuest(0, 2), 19);
        due("BENT behind a roast", x.ofGuest(0, 0), 99);
        // A trifle's way is told by how often it was served ahead of the meal.
        due("eat(0, 1) again", x.eat(0, 1), 4);
        due("BILL of the trifle", x.ofGuest(0, 2), 19 + 19);
    }

    // ---- days

    private static void go() {
        promise = 12;
        ForkInn x = inn("mutton 1 2 price 3; mutton 3 4 price 50; guest 5; guest 6");
        for (int i = 0; i < 6; i++) {
            x.list(i, i % 2, 0);
        }
        x.list(5, 5, 1);
        x.list(4, 0, 7);
        x.list(3, 1, 1);
        due("go(0)", x.go(0), BEYOND);
        due("go(-1)", x.go(-1), BEYOND);
        due("go(61)", x.go(61), BEYOND);
        due("count(0)", x.count(0), 0);
        due("go(1)", x.go(1), 3);
        due("go(2)", x.go(2), 9);
        due("go(1)", x.go(1), 59);
        due("go(2): neither guest 5 nor dish 7 is there", x.go(2), 59);
        due("go(60)", x.go(60), 59 * 11);
        due("count(0)", x.count(0), 66);
        x.change(1, 5, 1);
        due("go(6) with a dish off", x.go(6), 59 * 11 + 9);
        due("ofGuest(0, 4)", x.ofGuest(0, 4), 2 * 12);
        due("ofGuest(1, 4)", x.ofGuest(1, 4), 2 * 11 + 1);
        due("of(0, 4)", x.of(0, 4), 36);
        ForkInn y = new ForkInn();
        for (int k = 0; k < 500; k++) {
            y.go(60);
        }
        due("count(0) behind 30000 days", y.count(0), 30000);
        lastDay();
    }

    /** DAY 99999 is out of reach within 512 calls, so it is put there from outside. */
    private static void putDay(ForkInn x, int day) {
        try {
            Field held = ForkInn.class.getDeclaredField("inn");
            held.setAccessible(true);
            Object inn = held.get(x);
            Field days = inn.getClass().getDeclaredField("day");
            days.setAccessible(true);
            days.setInt(inn, day);
        } catch (ReflectiveOperationException e) {
            throw new IllegalStateException("the day is held elsewhere now", e);
        }
    }

    private static void lastDay() {
        ForkInn x = inn("mutton 1 2 price 3; guest 5");
        putDay(x, 99940);
        due("go(60) from 99940", x.go(60), STATE);
        due("go(61) from 99940", x.go(61), BEYOND);
        due("count(0)", x.count(0), 99940);
        due("count(3)", x.count(3), 0);
        due("go(59) from 99940", x.go(59), 3 * 59);
        due("count(0)", x.count(0), 99999);
        due("go(1) from 99999", x.go(1), STATE);
        x.list(0, 5, 0);
        due("ahead(0, 4, 7): the day stays", x.ahead(0, 4, 7), 59 + 7);
    }

    private static void now() {
        promise = 13;
        ForkInn x = inn("mutton 4 2 price 9 served 5; pie 3 4 served 6 off; dish 1 1; guest 5 for 2; guest 6 for 2",
            "guest 7 for 11");
        due("now(2)", x.now(2), 4 + 2048);
        due("now(3)", x.now(3), 0);
        due("now(5)", x.now(5), 2);
        due("now(7): all owe the same", x.now(7), 0);
        x.go(1);
        x.eat(2, 0);
        x.eat(2, 2);
        due("now(0)", x.now(0), 1);
        due("now(1)", x.now(1), 9 + 9 + 10);
        due("now(2)", x.now(2), 16 + 4 + 2);
        due("now(3)", x.now(3), 16 + 2);
        due("now(4)", x.now(4), 5 + 6 + 3);
        due("now(5)", x.now(5), 3);
        due("now(6)", x.now(6), 5);
        due("now(7)", x.now(7), 2);
        x.seat(1, 2, 19);
        due("now(7): the least of two", x.now(7), 1);
        x.seat(2, 2, 18);
        due("now(7)", x.now(7), 1);
        due("now(8)", x.now(8), BEYOND);
        due("now(-1)", x.now(-1), BEYOND);
        ForkInn y = new ForkInn();
        due("now(7) of nobody", y.now(7), -1);
        for (int g = 0; g < 6; g++) {
            y.guest(g);
            y.seat(g, 1, g);
            y.seat(g, 2, 99999);
            y.seat(g, 3, 1 << 2 * g);
        }
        due("now(1)", y.now(1), 599994);
        due("now(2)", y.now(2), 63);
        due("now(3)", y.now(3), 1 + 4 + 16 + 64 + 256 + 1024);
        due("now(5)", y.now(5), 15);
    }

    // ---- what will be

    private static void ahead() {
        promise = 14;
        ForkInn x = inn("dish 1 2 price 3; guest 47; guest 60; meal 1 0 0; meal 2 1 0; meal 3 1 0; meal 4 1 0",
            "meal 5 1 0");
        String before = seen(x);
        // By the left from 47 down, twice in seven days; guest 1 goes up by 5 a meal.
        int[] behind7 = {32, 1, 9, 2, 3};
        int[] behind0 = {47, 0, 0, 0, 0};
        int[] other7 = {80, 2, 12, 4, 4};
        for (int what = 0; what < 5; what++) {
            due("ahead(0, " + what + ", 0)", x.ahead(0, what, 0), behind0[what]);
            due("ahead(0, " + what + ", 7)", x.ahead(0, what, 7), behind7[what]);
            due("ahead(1, " + what + ", 7)", x.ahead(1, what, 7), other7[what]);
        }
        due("ahead(0, 4, 100)", x.ahead(0, 4, 100), 17 * 2);
        due("ahead(0, 4, 101)", x.ahead(0, 4, 101), BEYOND);
        due("ahead(0, 4, -1)", x.ahead(0, 4, -1), BEYOND);
        due("ahead(2, 0, 0)", x.ahead(2, 0, 0), BEYOND);
        due("ahead(-1, 0, 0)", x.ahead(-1, 0, 0), BEYOND);
        due("ahead(0, 5, 0)", x.ahead(0, 5, 0), BEYOND);
        due("ahead(0, -1, 0)", x.ahead(0, -1, 0), BEYOND);
        same("ahead", seen(x), before);
        x.go(6);
        due("ahead(0, 4, 1) on a later day", x.ahead(0, 4, 1), 3);
        due("ahead(1, 4, 1) on a later day", x.ahead(1, 4, 1), 4);
    }

    private static void served() {
        promise = 15;
        ForkInn x = inn("dish 1 2 served 9; pie 3 4 served 9995; guest 47; meal 2 0 1; meal 5 0 1; peas 0 0 off",
            "meal 4 0 2");
        String before = seen(x);
        due("served(0, 0)", x.served(0, 0), 9);
        due("served(0, 1)", x.served(0, 1), 10);
        due("served(0, 100)", x.served(0, 100), 9 + 17 + 17 + 17);
        due("served(1, 6)", x.served(1, 6), 9997);
        due("served(1, 100)", x.served(1, 100), 9999);
        due("served(2, 100)", x.served(2, 100), 0);
        due("served(0, 101)", x.served(0, 101), BEYOND);
        due("served(0, -1)", x.served(0, -1), BEYOND);
        due("served(3, 0)", x.served(3, 0), BEYOND);
        due("served(-1, 0)", x.served(-1, 0), BEYOND);
        same("served", seen(x), before);
    }

    private static ForkInn seldomEating(int place) {
        ForkInn x = inn("peas 4 5 price 1; guest 67 for 9; guest 0 for 9");
        for (int i = 0; i < 6; i++) {
            x.list(i, i == place ? 0 : 5, 0);
        }
        return x;
    }

    private static void when() {
        promise = 16;
        // One helping of peas in six days: by the right until the bent is held at 99, by the left at the 34th.
        ForkInn x = seldomEating(1);
        String before = seen(x);
        due("when(0, 9)", x.when(0, 9), 0);
        due("when(0, 5)", x.when(0, 5), 2);
        due("when(0, 4)", x.when(0, 4), 200);
        due("when(0, 0)", x.when(0, 0), NONE);
        due("when(1, 4)", x.when(1, 4), NONE);
        due("when(2, 0)", x.when(2, 0), BEYOND);
        due("when(-1, 0)", x.when(-1, 0), BEYOND);
        due("when(0, -1)", x.when(0, -1), BEYOND);
        due("when(0, 12)", x.when(0, 12), BEYOND);
        same("when", seen(x), before);
        ForkInn y = seldomEating(2);
        due("when(0, 5) a day later", y.when(0, 5), 3);
        due("when(0, 4) a day later: behind 201", y.when(0, 4), NONE);
    }

    private static void owes() {
        promise = 17;
        // One meal in six days, on the second.
        ForkInn x = seldomEating(1);
        String before = seen(x);
        due("owes(0, 0)", x.owes(0, 0), 0);
        due("owes(0, 1)", x.owes(0, 1), 2);
        due("owes(0, 2)", x.owes(0, 2), 8);
        due("owes(0, 34)", x.owes(0, 34), 200);
        due("owes(0, 35)", x.owes(0, 35), NONE);
        due("owes(0, 99999)", x.owes(0, 99999), NONE);
        due("owes(0, 100000)", x.owes(0, 100000), BEYOND);
        due("owes(0, -1)", x.owes(0, -1), BEYOND);
        due("owes(1, 1)", x.owes(1, 1), NONE);
        due("owes(2, 0)", x.owes(2, 0), BEYOND);
        due("owes(-1, 0)", x.owes(-1, 0), BEYOND);
        same("owes", seen(x), before);
        x.seat(0, 2, 99998);
        due("owes(0, 99999) from 99998", x.owes(0, 99999), 2);
    }

    private static void part() {
        promise = 18;
        ForkInn x = inn("mutton 4 5; guest 3 for 4; guest 4 for 4; guest 7 for 1; meal 0 1 0; meal 1 1 0",
            "meal 2 2 0");
        x.list(3, 5, 0);
        x.list(4, 5, 0);
        x.list(5, 5, 0);
        String before = seen(x);
        due("part(0, 1)", x.part(0, 1), NONE);
        due("part(0, 2)", x.part(0, 2), 0);
        due("part(0, 0)", x.part(0, 0), BEYOND);
        due("part(0, 3)", x.part(0, 3), BEYOND);
        due("part(3, 0)", x.part(3, 0), BEYOND);
        due("part(-1, 0)", x.part(-1, 0), BEYOND);
        due("part(0, -1)", x.part(0, -1), BEYOND);
        same("part", seen(x), before);
        x.seat(2, 1, 4);
        due("part(0, 2)", x.part(0, 2), NONE);
        x.change(0, 1, 6);
        due("part(0, 1)", x.part(0, 1), 1);
        due("part(2, 0)", x.part(2, 0), 3);
        due("part(1, 2)", x.part(1, 2), 1);
        lastDays();
    }

    /** Behind 200 days counts, behind 201 no more. */
    private static void lastDays() {
        ForkInn x = seldomEating(1);
        x.seat(0, 1, 5);
        x.seat(1, 1, 5);
        due("part(0, 1)", x.part(0, 1), 200);
        ForkInn y = seldomEating(2);
        y.seat(0, 1, 5);
        y.seat(1, 1, 5);
        due("part(0, 1) a day later", y.part(0, 1), NONE);
    }

    // ---- which dish, how bent

    private static void dishFor() {
        promise = 19;
        ForkInn x = inn("mutton 1 2 price 5; mutton 1 2 price 4; mutton 1 2 price 4; mutton 1 2 price 9",
            "mutton 1 2 price 9; mutton 1 2 price 9; mutton 1 2 price 9; mutton 1 2 price 9; guest 1",
            "meal 3 0 5");
        String before = seen(x);
        due("dishFor(0, 6)", x.dishFor(0, 6), 1);
        due("dishFor(0, 60)", x.dishFor(0, 60), 1);
        due("dishFor(3, 3): the place isn't reached", x.dishFor(3, 3), 0);
        due("dishFor(3, 4)", x.dishFor(3, 4), 1);
        due("dishFor(3, 0)", x.dishFor(3, 0), 0);
        due("dishFor(6, 0)", x.dishFor(6, 0), BEYOND);
        due("dishFor(-1, 0)", x.dishFor(-1, 0), BEYOND);
        due("dishFor(0, 61)", x.dishFor(0, 61), BEYOND);
        due("dishFor(0, -1)", x.dishFor(0, -1), BEYOND);
        same("dishFor", seen(x), before);
        x.change(7, 5, 1);
        due("dishFor(5, 6): one that is off costs nothing", x.dishFor(5, 6), 7);
        ForkInn y = inn("mutton 1 2; mutton 1 2 price 1; guest 1; meal 0 5 0");
        due("dishFor(0, 6): its guest isn't there", y.dishFor(0, 6), 0);
        due("dishFor(1, 6): a dish that isn't there costs nothing", y.dishFor(1, 6), 2);
    }

    private static void kindFor() {
        promise = 20;
        ForkInn x = inn("joint 1 2 price 2; guest 1; guest 80 for 2");
        String before = seen(x);
        due("kindFor(0, 6)", x.kindFor(0, 6), PIE);
        due("kindFor(0, 0)", x.kindFor(0, 0), DISH);
        due("kindFor(0, 60)", x.kindFor(0, 60), PIE);
        due("kindFor(0, 61)", x.kindFor(0, 61), BEYOND);
        due("kindFor(0, -1)", x.kindFor(0, -1), BEYOND);
        due("kindFor(1, 0)", x.kindFor(1, 0), BEYOND);
        due("kindFor(-1, 0)", x.kindFor(-1, 0), BEYOND);
        same("kindFor", seen(x), before);
        x.change(0, 3, 4);
        due("kindFor(0, 6) at price 4", x.kindFor(0, 6), PEAS);
        x.change(0, 3, 0);
        due("kindFor(0, 6) at price 0", x.kindFor(0, 6), DISH);
    }

    private static void bentFor() {
        promise = 21;
        ForkInn x = inn("roast 1 2; guest 10 for 5; guest 10 for 5; pie 3 4; meal 1 0 1; meal 2 0 5");
        String before = seen(x);
        due("bentFor(0, 5, 0)", x.bentFor(0, 5, 0), 0);
        due("bentFor(0, 1, 0)", x.bentFor(0, 1, 0), NONE);
        due("bentFor(0, 1, 1)", x.bentFor(0, 1, 1), 0);
        due("bentFor(0, 2, 1)", x.bentFor(0, 2, 1), 30);
        due("bentFor(0, 3, 2)", x.bentFor(0, 3, 2), 0);
        due("bentFor(0, 4, 2)", x.bentFor(0, 4, 2), 11);
        due("bentFor(0, 4, 3)", x.bentFor(0, 4, 3), 11);
        due("bentFor(0, 6, 3)", x.bentFor(0, 6, 3), NONE);
        due("bentFor(1, 5, 60)", x.bentFor(1, 5, 60), 0);
        due("bentFor(0, 5, 61)", x.bentFor(0, 5, 61), BEYOND);
        due("bentFor(0, 5, -1)", x.bentFor(0, 5, -1), BEYOND);
        due("bentFor(0, 12, 1)", x.bentFor(0, 12, 1), BEYOND);
        due("bentFor(0, -1, 1)", x.bentFor(0, -1, 1), BEYOND);
        due("bentFor(2, 5, 1)", x.bentFor(2, 5, 1), BEYOND);
        due("bentFor(-1, 5, 1)", x.bentFor(-1, 5, 1), BEYOND);
        same("bentFor", seen(x), before);
        ForkInn y = inn("joint 1 2; guest 0; guest 0 for 2");
        due("bentFor(0, 2, 1): another is for the right town", y.bentFor(0, 2, 1), NONE);
    }

    private static void courses() {
        promise = 22;
        ForkInn x = inn("dish 1 2; guest 35 for 7; roast 3 4 off");
        String before = seen(x);
        due("courses(0, 7)", x.courses(0, 7), 0);
        due("courses(0, 1)", x.courses(0, 1), 1);
        due("courses(0, 2)", x.courses(0, 2), NONE);
        due("courses(0, 3): off", x.courses(0, 3), NONE);
        due("courses(1, 3)", x.courses(1, 3), BEYOND);
        due("courses(-1, 3)", x.courses(-1, 3), BEYOND);
        due("courses(0, 12)", x.courses(0, 12), BEYOND);
        due("courses(0, -1)", x.courses(0, -1), BEYOND);
        same("courses", seen(x), before);
        x.change(1, 5, 0);
        // 35 is by the right for a roast (45, then 55): so two roasts, then the dish by the right.
        due("courses(0, 2)", x.courses(0, 2), 3);
        // A dish by the left (30, then 25), then the roast by the left.
        due("courses(0, 3)", x.courses(0, 3), 3);
        due("courses(0, 4)", x.courses(0, 4), 1);
        x.seat(0, 0, 40);
        due("courses(0, 2) from 40", x.courses(0, 2), 2);
        due("courses(0, 3) from 40", x.courses(0, 3), 4);
        x.seat(0, 0, 45);
        due("courses(0, 3) from 45", x.courses(0, 3), NONE);
        x.seat(0, 0, 35);
        x.change(1, 5, 1);
        same("courses", seen(x), before);
        coursesBySelf();
    }

    /** The same dish again, and ways told by how often it was served. */
    private static void coursesBySelf() {
        ForkInn x = inn("trifle 1 2; guest 50 for 2; guest 50 for 6; joint 5 6");
        due("courses(0, 1)", x.courses(0, 1), 1);
        due("courses(1, 2)", x.courses(1, 2), 2);
        due("courses(0, 5): the other one is for 6", x.courses(0, 5), 1);
        due("courses(0, 6)", x.courses(0, 6), NONE);
        due("courses(1, 6)", x.courses(1, 6), 0);
        due("courses(1, 5)", x.courses(1, 5), NONE);
        x.change(0, 4, 9999);
        due("courses(1, 1): served no more than 9999", x.courses(1, 1), NONE);
        due("status(0)", x.status(0), 0);
        ForkInn y = new ForkInn();
        y.guest(4);
        due("courses(0, 0) without dishes", y.courses(0, 0), 0);
        due("courses(0, 1) without dishes", y.courses(0, 1), NONE);
    }

    private static void strike() {
        promise = 23;
        ForkInn x = inn("mutton 1 2; mutton 1 2; mutton 3 4; guest 9 for 8; meal 1 0 1; meal 2 0 2; meal 3 5 7",
            "meal 4 5 7; meal 5 5 7");
        String before = seen(x);
        due("strike(0, 3, 3)", x.strike(0, 3, 3), 4);
        due("strike(0, 1, 3)", x.strike(0, 1, 3), 0);
        due("strike(0, 1, 2)", x.strike(0, 1, 2), 3);
        due("strike(0, 1, 1)", x.strike(0, 1, 1), 1);
        due("strike(0, 8, 0)", x.strike(0, 8, 0), NONE);
        due("strike(0, 8, 1)", x.strike(0, 8, 1), 0);
        due("strike(0, 3, 20)", x.strike(0, 3, 20), 0);
        due("strike(0, 1, 20)", x.strike(0, 1, 20), 3);
        due("strike(0, 1, 21)", x.strike(0, 1, 21), BEYOND);
        due("strike(0, 1, -1)", x.strike(0, 1, -1), BEYOND);
        due("strike(0, 12, 1)", x.strike(0, 12, 1), BEYOND);
        due("strike(0, -1, 1)", x.strike(0, -1, 1), BEYOND);
        due("strike(1, 1, 1)", x.strike(1, 1, 1), BEYOND);
        due("strike(-1, 1, 1)", x.strike(-1, 1, 1), BEYOND);
        same("strike", seen(x), before);
        x.seat(0, 1, 1);
        due("strike(0, 1, 2): for it from the first", x.strike(0, 1, 2), NONE);
        x.change(0, 5, 1);
        x.seat(0, 1, 8);
        due("strike(0, 1, 2): one is off already", x.strike(0, 1, 2), 2);
        fewestFirst();
    }

    /** One dish of a greater number goes ahead of two of lesser ones. */
    private static void fewestFirst() {
        ForkInn all = inn("mutton 1 2; guest 9 for 8");
        due("strike(0, 1, 6): all that there are", all.strike(0, 1, 6), 1);
        all.dish(MUTTON, 1, 3);
        all.list(2, 0, 1);
        due("strike(0, 1, 6): both", all.strike(0, 1, 6), 3);
        ForkInn x = inn("mutton 1 2; mutton 1 2; guest 9 for 8; dish 3 4; meal 2 0 2");
        x.list(1, 0, 1);
        x.seat(0, 0, 0);
        due("strike(0, 3, 3)", x.strike(0, 3, 3), 4);
        // Either of the roasts carries the bent above 50 for the last dish; with both struck it isn't.
        ForkInn y = inn("roast 1 1; roast 1 1; dish 3 4; guest 45; meal 1 0 1; meal 2 0 2");
        due("strike(0, 4, 3)", y.strike(0, 4, 3), 4);
        ForkInn z = inn("roast 1 1; dish 3 4; guest 45; meal 1 0 1");
        due("strike(0, 4, 2): the least of two", z.strike(0, 4, 2), 1);
        due("strike(0, 4, 2) leaves them on", z.now(6), 3);
    }

    // ---- told towns

    private static void fits() {
        promise = 24;
        ForkInn x = inn("roast 1 2; guest 10 for 5; pie 3 4; meal 1 0 1; meal 2 5 5; guest 9 for 6");
        String before = seen(x);
        due("fits(4, 0)", x.fits(4, 0), BEYOND);
        due("fits(-1, 7)", x.fits(-1, 7), BEYOND);
        due("fits(0, 7)", x.fits(0, 7), MISSING);
        x.sheet(0, 8, 0);
        due("fits(0, 2)", x.fits(0, 2), BEYOND);
        due("fits(0, -1)", x.fits(0, -1), BEYOND);
        due("fits(0, 0): nothing told", x.fits(0, 0), 100);
        tell(x, 0, 5);
        due("fits(0, 0)", x.fits(0, 0), 100);
        due("fits(0, 1)", x.fits(0, 1), 0);
        tell(x, 0, 5, 1);
        due("fits 5 1", x.fits(0, 0), 30);
        tell(x, 0, -1, 2);
        due("fits any 2", x.fits(0, 0), 70);
        // Behind a roast by the left all up to 10 have a bent of 0, else the parity stays.
        tell(x, 0, 5, 1, 3);
        due("fits 5 1 3", x.fits(0, 0), 11 + 9);
        tell(x, 0, 5, -1, 4);
        due("fits 5 any 4", x.fits(0, 0), 10 + 30 + 10);
        tell(x, 0, 5, 1, 4, 4);
        due("fits 5 1 4 4", x.fits(0, 0), 10);
        tell(x, 0, 5, 1, 4, 3);
        due("fits 5 1 4 3", x.fits(0, 0), 0);
        tell(x, 0, 5, 3);
        due("fits 5 3", x.fits(0, 0), 0);
        x.sheet(3, 32, 2);
        x.write(3, 0, -1);
        x.write(3, 1, 256 + 2);
        due("fits any 258", x.fits(3, 0), 0);
        x.sheet(3, 16, 2);
        x.write(3, 0, -1);
        x.write(3, 1, 65536 + 2);
        due("fits any 2 of 16 bits", x.fits(3, 0), 70);
        same("fits", seen(x), before);
        x.sheet(2, 8, 40);
        for (int i = 0; i < 40; i++) {
            x.write(2, i, -1);
        }
        due("fits 40 any", x.fits(2, 0), 100);
        ForkInn y = inn("mutton 3 4; guest 1 for 3");
        y.sheet(2, 8, 40);
        for (int i = 0; i < 40; i++) {
            y.write(2, i, 3);
        }
        due("fits 40 times 3", y.fits(2, 0), 100);
        y.write(2, 39, 4);
        due("fits 39 times 3, 4", y.fits(2, 0), 0);
    }

    private static void kinds() {
        promise = 25;
        ForkInn x = inn("roast 1 2; guest 30 for 5; guest 9 for 2; mutton 8 9; meal 2 5 5");
        String before = seen(x);
        due("kinds(4, 0, 0)", x.kinds(4, 0, 0), BEYOND);
        due("kinds(-1, 9, 9)", x.kinds(-1, 9, 9), BEYOND);
        due("kinds(1, 9, 9)", x.kinds(1, 9, 9), MISSING);
        x.sheet(1, 8, 0);
        due("kinds(1, 2, 0)", x.kinds(1, 2, 0), BEYOND);
        due("kinds(1, -1, 0)", x.kinds(1, -1, 0), BEYOND);
        due("kinds(1, 0, 2)", x.kinds(1, 0, 2), BEYOND);
        due("kinds(1, 0, -1)", x.kinds(1, 0, -1), BEYOND);
        due("kinds, nothing told", x.kinds(1, 0, 0), 127);
        tell(x, 1, 5, 2);
        due("kinds 5 2", x.kinds(1, 0, 0), 1 << ROAST);
        tell(x, 1, 5, 1);
        due("kinds 5 1", x.kinds(1, 0, 0), 127 - (1 << ROAST));
        tell(x, 1, 5, 1, 2);
        // A bent of 30: dish 25 left, pie 24 left, joint left as another is for 2, trifle right, mutton left,
        // peas: 31, served once: left.
        due("kinds 5 1 2", x.kinds(1, 0, 0), 1 << TRIFLE);
        tell(x, 1, -1, -1, 1);
        due("kinds any any 1", x.kinds(1, 0, 0), 127 - (1 << TRIFLE) - (1 << ROAST));
        tell(x, 1, 5, 1);
        due("kinds 5 1 of a dish that isn't eaten", x.kinds(1, 1, 0), 0);
        tell(x, 1, 5, 2);
        due("kinds 5 2 of a dish that isn't eaten", x.kinds(1, 1, 0), 127);
        tell(x, 1, 4);
        due("kinds 4", x.kinds(1, 0, 0), 0);
        tell(x, 1, 2, 2);
        due("kinds 2 2 of the other guest", x.kinds(1, 0, 1), 127);
        same("kinds", seen(x), before);
    }

    // ---- coaches

    private static void coach() {
        promise = 26;
        ForkInn x = inn("mutton 1 2 price 1; mutton 1 2 price 2; mutton 1 2 price 4; mutton 1 2 price 8",
            "guest 1; guest 2");
        due("coach(0)", x.coach(0), BEYOND);
        due("coach(-1)", x.coach(-1), BEYOND);
        due("coach(21)", x.coach(21), BEYOND);
        due("count(6)", x.count(6), 1);
        read(x, "mutton 1 2 price 16; mutton 1 2 price 32; mutton 1 2 price 64; mutton 1 2 price 99");
        read(x, "guest 3; guest 4; guest 5; guest 6");
        int z = 1;
        int day = 0;
        int bills = 0;
        int[] prices = {1, 2, 4, 8, 16, 32, 64, 99};
        int[] meals = new int[6];
        int[] times = {1, 2, 20, 7};
        for (int n : times) {
            for (int k = 0; k < n; k++) {
                z = z * 1103515245 + 12345;
                int g = (z >>> 8) % 6;
                z = z * 1103515245 + 12345;
                int d = (z >>> 8) % 8;
                meals[day % 6] = 10 * g + d;
                bills += prices[d];
                day++;
            }
            due("coach(" + n + ")", x.coach(n), bills);
            due("count(0)", x.count(0), day);
            due("count(6)", x.count(6), z);
        }
        for (int i = 0; i < 6; i++) {
            due("listed(" + i + ")", x.listed(i), meals[i]);
        }
        putDay(x, 99980);
        due("coach(20) from 99980", x.coach(20), STATE);
        due("coach(21) from 99980", x.coach(21), BEYOND);
        due("count(6)", x.count(6), z);
        x.coach(19);
        due("count(0)", x.count(0), 99999);
        due("coach(1) from 99999", x.coach(1), STATE);
    }

    private static void odds() {
        promise = 27;
        ForkInn x = inn("dish 1 2; roast 1 2; joint 1 2; mutton 1 2; trifle 1 2 served 1; peas 1 2 off",
            "guest 77; guest 3 for 1");
        String before = seen(x);
        due("odds(0, 0, 1, 0)", x.odds(0, 0, 1, 0), 1);
        due("odds(0, 0, 1, 1)", x.odds(0, 0, 1, 1), 2);
        due("odds(0, 0, 9, 1)", x.odds(0, 0, 9, 1), 512);
        due("odds(0, 1, 9, 0)", x.odds(0, 1, 9, 0), 19683);
        due("odds(0, 1, 9, 1)", x.odds(0, 1, 9, 1), 1000000000L);
        due("odds(0, 1, 0, 0)", x.odds(0, 1, 0, 0), 1);
        due("odds(0, 1, 0, 1)", x.odds(0, 1, 0, 1), 1);
        due("odds(0, 2, 2, 0)", x.odds(0, 2, 2, 0), 9);
        due("odds(0, 2, 2, 1)", x.odds(0, 2, 2, 1), 100);
        due("odds(0, 3, 9, 0)", x.odds(0, 3, 9, 0), 1);
        due("odds(0, 3, 9, 1)", x.odds(0, 3, 9, 1), 1);
        due("odds(0, 4, 3, 0)", x.odds(0, 4, 3, 0), 0);
        due("odds(0, 4, 3, 1)", x.odds(0, 4, 3, 1), 1);
        due("odds(0, 4, 0, 0)", x.odds(0, 4, 0, 0), 1);
        due("odds(0, 5, 3, 1)", x.odds(0, 5, 3, 1), 8);
        x.seat(1, 1, 2);
        due("odds(0, 2, 9, 0): another is for its right town", x.odds(0, 2, 9, 0), 1);
        due("odds(1, 2, 1, 0)", x.odds(1, 2, 1, 0), 3);
        x.seat(1, 1, 1);
        due("odds(0, 0, 10, 0)", x.odds(0, 0, 10, 0), BEYOND);
        due("odds(0, 0, -1, 0)", x.odds(0, 0, -1, 0), BEYOND);
        due("odds(0, 0, 1, 2)", x.odds(0, 0, 1, 2), BEYOND);
        due("odds(0, 0, 1, -1)", x.odds(0, 0, 1, -1), BEYOND);
        due("odds(2, 0, 1, 0)", x.odds(2, 0, 1, 0), BEYOND);
        due("odds(-1, 0, 1, 0)", x.odds(-1, 0, 1, 0), BEYOND);
        due("odds(0, 6, 1, 0)", x.odds(0, 6, 1, 0), BEYOND);
        due("odds(0, -1, 1, 0)", x.odds(0, -1, 1, 0), BEYOND);
        same("odds", seen(x), before);
    }

    private static void seed() {
        promise = 28;
        ForkInn x = new ForkInn();
        due("seed(-1000001)", x.seed(-1000001), 1);
        due("seed(0)", x.seed(0), -1000001);
        due("status(-1): z is no finding", x.status(-1), 0);
        due("seed(MIN)", x.seed(Integer.MIN_VALUE), 0);
        due("count(6)", x.count(6), Integer.MIN_VALUE);
        x.seed(0);
        x.coach(1);
        int z = 12345 * 1103515245 + 12345;
        due("count(6) behind two draws", x.count(6), z);
        due("listed(0)", x.listed(0), 10 * ((12345 >>> 8) % 6) + (z >>> 8) % 8);
    }

    // ---- texts

    private static void feed() {
        promise = 29;
        ForkInn x = new ForkInn();
        due("feed(0, 0)", x.feed(0, 0), BEYOND);
        due("feed(0, 5)", x.feed(0, 5), BEYOND);
        due("feed(0, -1)", x.feed(0, -1), BEYOND);
        due("count(5)", x.count(5), 0);
        // "guest 37": the highest of the lowest bytes comes first, and what is above them doesn't come.
        due("feed 1", x.feed(0x7a7a7a67, 1), 1);
        due("feed 2", x.feed(0x7a7a7565, 2), 3);
        due("feed 3", x.feed(0x7a737420, 3), 6);
        due("feed 4", x.feed(0x20203337, 4), 10);
        due("text()", x.text(), 1);
        due("ofGuest(0, 0)", x.ofGuest(0, 0), 37);
        for (int k = 1; k <= 29; k++) {
            due("feed 4", x.feed(-1, 4), 4 * k);
        }
        due("feed 3 at 116", x.feed(0, 3), 119);
        due("feed 2 at 119", x.feed(0, 2), FULL);
        due("feed 5 at 119", x.feed(0, 5), BEYOND);
        due("count(5)", x.count(5), 119);
        due("feed 1 at 119", x.feed(0, 1), 120);
        due("feed 1 at 120", x.feed(0, 1), FULL);
        due("wipe()", x.wipe(), 120);
        due("feed 1", x.feed(0, 1), 1);
    }

    private static void wipe() {
        promise = 30;
        ForkInn x = new ForkInn();
        due("wipe()", x.wipe(), 0);
        tape(x, "guest 5");
        due("wipe()", x.wipe(), 7);
        due("count(5)", x.count(5), 0);
        due("wipe()", x.wipe(), 0);
        due("text()", x.text(), -1);
        due("count(2)", x.count(2), 0);
    }

    private static void text() {
        promise = 31;
        ForkInn x = new ForkInn();
        due("text", read(x, "dish 0 1;pie 1 2;roast 2 3;joint 3 4;trifle 4 5;mutton 5 6;peas 11 0 price99served9999off"), 7);
        due("count(5)", x.count(5), 0);
        due("count(1)", x.count(1), 7);
        for (int d = 0; d < 6; d++) {
            int[] facts = {d, d, d + 1, 10, 0, 0};
            for (int what = 0; what < 6; what++) {
                due("of(" + d + ", " + what + ")", x.of(d, what), facts[what]);
            }
        }
        int[] peas = {PEAS, 11, 0, 99, 9999, 1};
        for (int what = 0; what < 6; what++) {
            due("of(6, " + what + ")", x.of(6, what), peas[what]);
        }
        due("text", read(x, "  guest 99 for 11 ; guest 0;meal 5 5 7;meal 0 1 2;meal 5 0 0  "), 5);
        due("ofGuest(0, 0)", x.ofGuest(0, 0), 99);
        due("ofGuest(0, 1)", x.ofGuest(0, 1), 11);
        due("ofGuest(0, 3)", x.ofGuest(0, 3), 0);
        due("ofGuest(1, 0)", x.ofGuest(1, 0), 0);
        due("ofGuest(1, 1)", x.ofGuest(1, 1), 0);
        due("listed(5): the later one counts", x.listed(5), 0);
        due("listed(0)", x.listed(0), 12);
        due("text", read(x, "dish0 011price007off"), 1);
        int[] last = {DISH, 0, 11, 7, 0, 1};
        for (int what = 0; what < 6; what++) {
            due("of(7, " + what + ")", x.of(7, what), last[what]);
        }
        due("text with a 9th dish", read(x, "meal 1 1 1;pie 0 0"), -12);
        due("listed(1): nothing changed", x.listed(1), 0);
        due("count(5)", x.count(5), 0);
        due("text with 4 more guests", read(x, "guest 1;guest 2;guest 3;guest 4"), 4);
        due("text with a 7th guest", read(x, "guest 1"), -1);
        due("status(-1): no findings", x.status(-1), 0);
        due("text with the least numbers", read(inn("guest 1"), "pie 0 0 price 0 served 0;guest 0 for 0;meal 0 0 0"), 3);
        due("text of 120 bytes", read(x, String.format("%-120s", "meal 1 2 3")), 1);
        due("listed(1)", x.listed(1), 23);
    }

    private static void fault(String text, int place) {
        ForkInn x = new ForkInn();
        x.guest(3);
        String before = seen(x);
        due("text '" + text + "'", read(x, text), -1 - place);
        same("a fault", seen(x), before);
        due("status(-1)", x.status(-1), 0);
    }

    private static void textFaults() {
        fault("", 0);
        fault("   ", 3);
        fault(";", 0);
        fault("  ;", 2);
        fault("soup 1 2", 0);
        fault("Pie 1 2", 0);
        fault("p 1 2", 0);
        fault("piee 1 2", 0);
        fault("pi", 0);
        fault("zie 1 2", 0);
        fault("pie 1 2 offz", 8);
        fault("pie 1 2 aoff", 8);
        fault("pie 1 2 off{", 11);
        fault("pie 1 2 off`", 11);
        fault("pie 1/2", 5);
        fault("pie 1:2", 5);
        fault("1", 0);
        fault("price 1", 0);
        fault("off", 0);
        fault("pie", 3);
        fault("pie ", 4);
        fault("pie 1", 5);
        fault("pie 1 ", 6);
        fault("pie 12 1", 4);
        fault("pie 1 12", 6);
        fault("pie 1 2 3", 8);
        fault("pie pie", 4);
        fault("pie 1;", 5);
        fault("pie -1 2", 4);
        fault("pie 1,2", 5);
        fault("pie 1\t2", 5);
        fault("pie 1\n2", 5);
        fault("pie 1 2;", 8);
        fault("pie 1 2; ", 9);
        fault("pie 1 2;;", 8);
        fault("pie 1 2 pie 1 2", 8);
        fault("pie 1 2 price", 13);
        fault("pie 1 2 price 100", 14);
        fault("pie 1 2 price 5 5", 16);
        fault("pie 1 2 price 5 price 5", 16);
        fault("pie 1 2 price off", 14);
        fault("pie 1 2 served", 14);
        fault("pie 1 2 served 10000", 15);
        fault("pie 1 2 served 99999999999999999999", 15);
        fault("pie 1 2 served 4294967297", 15);
        fault("pie 4294967296 2", 4);
        fault("pie 1 2 served 1 price 5", 17);
        fault("pie 1 2 off price 5", 12);
        fault("pie 1 2 off off", 12);
        fault("pie 1 2 for 3", 8);
        fault("guest", 5);
        fault("guest 100", 6);
        fault("guest for", 6);
        fault("guest 5 for", 11);
        fault("guest 5 for 12", 12);
        fault("guest 5 off", 8);
        fault("guest 5 5", 8);
        fault("guest 5 for 1 for 1", 14);
        fault("meal", 4);
        fault("meal 6 0 0", 5);
        fault("meal 0 6 0", 7);
        fault("meal 0 0 8", 9);
        fault("meal 0 0", 8);
        fault("meal 0 0 0 0", 11);
        fault("meal 0 0 0 off", 11);
        fault("meal 1 2 3; guest 4; pie 1 2 .", 29);
        fault("pie 1 2 \u00e9", 8);
        fault("guest 1;guest 2;guest 3;guest 4;guest 5;guest 6 for 99", 40);
        fault("pie 1 2;pie 1 2;pie 1 2;pie 1 2;pie 1 2;pie 1 2;pie 1 2;pie 1 2;pie", 64);
        // A hundred digits behind noughts are still their number.
        ForkInn x = new ForkInn();
        due("a long number", read(x, "guest " + "0".repeat(100) + "42"), 1);
        due("ofGuest(0, 0)", x.ofGuest(0, 0), 42);
        due("too long a number", read(x, "guest " + "1" + "0".repeat(100)), -7);
    }

    // ---- spots, sheets

    private static void hold() {
        promise = 32;
        ForkInn x = inn("pie 1 2; roast 3 4");
        due("hold(0, 1)", x.hold(0, 1), 1);
        due("hold(9, 0)", x.hold(9, 0), 1);
        due("count(7)", x.count(7), 2);
        due("as(0, 0)", x.as(0, 0), 1);
        due("as(9, 0)", x.as(9, 0), 0);
        due("hold(0, 0)", x.hold(0, 0), 1);
        due("as(0, 0)", x.as(0, 0), 0);
        due("hold(0, -1)", x.hold(0, -1), 1);
        due("as(0, 0)", x.as(0, 0), MISSING);
        due("hold(0, -1)", x.hold(0, -1), 1);
        due("count(7)", x.count(7), 1);
        due("hold(10, 0)", x.hold(10, 0), BEYOND);
        due("hold(-1, 0)", x.hold(-1, 0), BEYOND);
        due("hold(9, 2)", x.hold(9, 2), BEYOND);
        due("hold(9, -2)", x.hold(9, -2), BEYOND);
        due("hold(10, -1)", x.hold(10, -1), BEYOND);
        due("as(9, 0)", x.as(9, 0), 0);
    }

    private static void as() {
        promise = 33;
        ForkInn x = inn("dish 0 0;pie 0 0;roast 0 0;joint 0 0;trifle 0 0;mutton 0 0;peas 0 0");
        // For each kind the kinds as which it passes.
        int[] passes = {1, 1 + 2, 1 + 4, 1 + 4 + 8, 1 + 4 + 8 + 16, 1 + 32, 1 + 2 + 64};
        for (int d = 0; d < 7; d++) {
            x.hold(d, d);
            for (int kind = 0; kind < 7; kind++) {
                due("kind " + d + " as " + kind, x.as(d, kind), (passes[d] >> kind & 1) == 1 ? d : KIND);
            }
        }
        x.change(6, 0, JOINT);
        due("as(6, 2) when it became a joint", x.as(6, ROAST), 6);
        due("as(7, 0)", x.as(7, 0), MISSING);
        due("as(7, 7)", x.as(7, 7), BEYOND);
        due("as(0, 7)", x.as(0, 7), BEYOND);
        due("as(0, -1)", x.as(0, -1), BEYOND);
        due("as(10, 0)", x.as(10, 0), BEYOND);
        due("as(-1, 0)", x.as(-1, 0), BEYOND);
    }

    private static void sheet() {
        promise = 34;
        ForkInn x = inn("guest 5; guest 6");
        due("sheet(0, 8, 40)", x.sheet(0, 8, 40), 40);
        due("sheet(1, 16, 1)", x.sheet(1, 16, 1), 1);
        due("sheet(2, 32, 0)", x.sheet(2, 32, 0), 0);
        due("load(2)", x.load(2), 0);
        due("sheet(3, 0, 7)", x.sheet(3, 0, 7), 0);
        due("load(3)", x.load(3), MISSING);
        due("sheet(4, 8, 0)", x.sheet(4, 8, 0), BEYOND);
        due("sheet(-1, 8, 0)", x.sheet(-1, 8, 0), BEYOND);
        due("sheet(0, 7, 0)", x.sheet(0, 7, 0), BEYOND);
        due("sheet(0, 64, -1)", x.sheet(0, 64, -1), BEYOND);
        due("sheet(0, -8, 0)", x.sheet(0, -8, 0), BEYOND);
        due("sheet(0, 8, -1)", x.sheet(0, 8, -1), SIZE);
        due("sheet(0, 0, -1)", x.sheet(0, 0, -1), SIZE);
        due("sheet(4, 8, -1)", x.sheet(4, 8, -1), BEYOND);
        due("sheet(0, 8, 41)", x.sheet(0, 8, 41), BEYOND);
        due("sheet(0, 0, 41)", x.sheet(0, 0, 41), BEYOND);
        due("write(0, 39, 1): it is still there", x.write(0, 39, 1), 1);
        x.write(0, 0, 9);
        due("sheet(0, 8, 2): all 0 again", x.sheet(0, 8, 2), 2);
        due("load(0)", x.load(0), 2);
        due("ofGuest(0, 0)", x.ofGuest(0, 0), 0);
        due("write(0, 2, 1)", x.write(0, 2, 1), BEYOND);
        due("sheet(0, 0, 0)", x.sheet(0, 0, 0), 0);
        due("write(0, 0, 1)", x.write(0, 0, 1), MISSING);
    }

    private static void write() {
        promise = 35;
        ForkInn x = inn("guest 5; guest 6; guest 7; guest 8");
        due("write(0, 0, 1)", x.write(0, 0, 1), MISSING);
        due("write(0, -1, 1)", x.write(0, -1, 1), MISSING);
        due("write(4, 0, 1)", x.write(4, 0, 1), BEYOND);
        due("write(-1, 0, 1)", x.write(-1, 0, 1), BEYOND);
        x.sheet(0, 8, 4);
        due("write(0, 4, 1)", x.write(0, 4, 1), BEYOND);
        due("write(0, -1, 1)", x.write(0, -1, 1), BEYOND);
        due("write(0, 0, 77)", x.write(0, 0, 77), 1);
        due("write(0, 1, 256 + 66)", x.write(0, 1, 256 + 66), 1);
        due("write(0, 2, 1 - 256)", x.write(0, 2, 1 - 256), 1);
        due("write(0, 3, 200)", x.write(0, 3, 200), 1);
        due("load(0)", x.load(0), 3);
        int[] bents = {77, 66, 1, 8};
        for (int g = 0; g < 4; g++) {
            due("ofGuest(" + g + ", 0)", x.ofGuest(g, 0), bents[g]);
        }
        x.sheet(1, 16, 4);
        x.write(1, 0, 65536 + 44);
        x.write(1, 1, 43 - 65536);
        x.write(1, 2, 256 + 42);
        due("load(1)", x.load(1), 2);
        due("ofGuest(0, 0)", x.ofGuest(0, 0), 44);
        due("ofGuest(1, 0)", x.ofGuest(1, 0), 43);
        x.sheet(2, 32, 4);
        x.write(2, 0, 21);
        x.write(2, 1, 65536 + 20);
        due("load(2)", x.load(2), 1);
        due("ofGuest(0, 0)", x.ofGuest(0, 0), 21);
        signs();
    }

    /** A number whose highest bit is set is below 0: so 255 of 8 bits, 65535 of 16 bits tell any town. */
    private static void signs() {
        ForkInn x = inn("guest 5 for 3");
        x.sheet(0, 8, 1);
        x.write(0, 0, 255);
        due("fits 255 of 8 bits", x.fits(0, 0), 100);
        x.sheet(0, 16, 1);
        x.write(0, 0, 255);
        due("fits 255 of 16 bits", x.fits(0, 0), 0);
        x.write(0, 0, 65535);
        due("fits 65535 of 16 bits", x.fits(0, 0), 100);
        x.sheet(0, 32, 1);
        x.write(0, 0, 65535);
        due("fits 65535 of 32 bits", x.fits(0, 0), 0);
        x.write(0, 0, -1);
        due("fits -1 of 32 bits", x.fits(0, 0), 100);
    }

    private static void bents(ForkInn x, int s, int... want) {
        due("load(" + s + ")", x.load(s), want.length);
        for (int g = 0; g < want.length; g++) {
            due("bent " + g, x.ofGuest(g, 0), want[g]);
        }
    }

    private static void copy() {
        promise = 36;
        ForkInn x = inn("guest 0; guest 0; guest 0; guest 0; guest 0");
        due("copy(4, 0, 0, 0, 0)", x.copy(4, 0, 0, 0, 0), BEYOND);
        due("copy(-1, 0, 0, 0, 0)", x.copy(-1, 0, 0, 0, 0), BEYOND);
        due("copy(0, 0, 4, 0, 0)", x.copy(0, 0, 4, 0, 0), BEYOND);
        due("copy(0, 0, -1, 0, 0)", x.copy(0, 0, -1, 0, 0), BEYOND);
        due("copy(0, 0, 0, 0, 0)", x.copy(0, 0, 0, 0, 0), MISSING);
        tell(x, 0, 1, 2, 3, 4, 5);
        due("copy(0, 0, 1, 0, -1)", x.copy(0, 0, 1, 0, -1), MISSING);
        due("copy(1, 0, 0, 0, -1)", x.copy(1, 0, 0, 0, -1), MISSING);
        x.sheet(1, 16, 5);
        due("copy(0, 0, 1, 0, -1)", x.copy(0, 0, 1, 0, -1), KIND);
        tell(x, 1, 11, 12, 13);
        due("copy(0, 1, 1, 0, 2)", x.copy(0, 1, 1, 0, 2), 2);
        bents(x, 1, 2, 3, 13);
        due("copy(0, 4, 1, 2, 1)", x.copy(0, 4, 1, 2, 1), 1);
        bents(x, 1, 2, 3, 5);
        tell(x, 2, 0, 0, 0);
        due("copy(1, 0, 2, 0, 3): all of it", x.copy(1, 0, 2, 0, 3), 3);
        bents(x, 2, 2, 3, 5);
        due("copy(0, 5, 1, 3, 0)", x.copy(0, 5, 1, 3, 0), 0);
        int[][] beyond = {{6, 0, 0}, {0, 4, 0}, {-1, 0, 1}, {0, -1, 1}, {0, 0, -1}, {0, 0, 4}, {3, 0, 3}, {0, 1, 3},
            {Integer.MAX_VALUE, 0, 1}, {0, Integer.MAX_VALUE, 1}, {1, 1, Integer.MAX_VALUE},
            {Integer.MIN_VALUE, 0, 1}, {0, 0, Integer.MIN_VALUE}};
        for (int[] c : beyond) {
            due("copy(0, " + c[0] + ", 1, " + c[1] + ", " + c[2] + ")", x.copy(0, c[0], 1, c[1], c[2]), BEYOND);
        }
        due("copy(1, 0, 0, 0, 4)", x.copy(1, 0, 0, 0, 4), BEYOND);
        bents(x, 1, 2, 3, 5);
        due("copy(0, 0, 0, 1, 4)", x.copy(0, 0, 0, 1, 4), 4);
        bents(x, 0, 1, 1, 2, 3, 4);
        due("copy(0, 2, 0, 0, 3)", x.copy(0, 2, 0, 0, 3), 3);
        bents(x, 0, 2, 3, 4, 3, 4);
    }

    private static void load() {
        promise = 37;
        ForkInn x = inn("guest 50; guest 51; guest 52");
        due("load(4)", x.load(4), BEYOND);
        due("load(-1)", x.load(-1), BEYOND);
        due("load(0)", x.load(0), MISSING);
        x.sheet(0, 8, 0);
        due("load of nothing", x.load(0), 0);
        tell(x, 0, 0, 99);
        bents(x, 0, 0, 99);
        due("ofGuest(2, 0)", x.ofGuest(2, 0), 52);
        tell(x, 0, 1, 2, 3, 4, 5);
        bents(x, 0, 1, 2, 3);
        tell(x, 0, 10, 100, 30);
        bents(x, 0, 10);
        due("ofGuest(1, 0)", x.ofGuest(1, 0), 2);
        due("ofGuest(2, 0)", x.ofGuest(2, 0), 3);
        tell(x, 0, 10, 20, -1);
        bents(x, 0, 10, 20);
        due("ofGuest(2, 0)", x.ofGuest(2, 0), 3);
        for (int what = 1; what < 5; what++) {
            due("ofGuest(0, " + what + ")", x.ofGuest(0, what), 0);
        }
    }

    private static void judge() {
        promise = 38;
        ForkInn x = inn("guest 50 for 3; guest 51 for 11; guest 52");
        due("judge(4)", x.judge(4), BEYOND);
        due("judge(-1)", x.judge(-1), BEYOND);
        due("judge(0)", x.judge(0), MISSING);
        x.sheet(0, 8, 0);
        due("judge nothing", x.judge(0), 0);
        tell(x, 0, 3);
        due("judge 3", x.judge(0), 0);
        tell(x, 0, 3, 11, 0);
        due("judge 3 11 0", x.judge(0), 0);
        tell(x, 0, 3, 11, 0, 0);
        due("judge 3 11 0 0: there is no guest 3", x.judge(0), 4);
        tell(x, 0, 3, 10, 1);
        due("judge 3 10 1", x.judge(0), 2);
        tell(x, 0, 2, 10, 1);
        due("judge 2 10 1", x.judge(0), 1);
        tell(x, 0, 3, -1, 0);
        due("judge 3 -1 0: -1 is no town", x.judge(0), 2);
        x.sheet(1, 8, 40);
        x.seat(0, 1, 0);
        x.seat(1, 1, 0);
        due("judge 40 times 0", x.judge(1), 4);
    }

    // ---- images

    private static void image() {
        promise = 39;
        ForkInn x = inn("pie 1 2; guest 3; meal 1 0 4");
        x.seed(77);
        x.hold(4, 0);
        x.go(3);
        String before = seen(x);
        due("image()", x.image(), 1);
        same("image", seen(x), before);
        tell(x, 0, 42);
        read(x, "roast 3 4 price 5; guest 9 for 2; meal 1 1 1");
        x.change(0, 3, 55);
        x.change(0, 0, JOINT);
        x.seat(0, 0, 66);
        x.eat(0, 1);
        x.seed(78);
        x.hold(4, -1);
        x.hold(5, 1);
        x.go(4);
        tape(x, "guest 1");
        due("undo()", x.undo(), 3);
        due("count(5): the tape stays", x.count(5), 7);
        x.wipe();
        same("undo", seen(x), before);
        due("as(4, 1)", x.as(4, PIE), 0);
        due("load(0): the sheet stays", x.load(0), 1);
        due("ofGuest(0, 0)", x.ofGuest(0, 0), 42);
        due("dish(0, 5, 6)", x.dish(0, 5, 6), 1);
        int[] facts = {0, 5, 6, 10, 0, 0};
        for (int what = 0; what < 6; what++) {
            due("of(1, " + what + ")", x.of(1, what), facts[what]);
        }
        due("guest(8)", x.guest(8), 1);
        for (int what = 1; what < 5; what++) {
            due("ofGuest(1, " + what + ")", x.ofGuest(1, what), 0);
        }
    }

    private static void undo() {
        promise = 40;
        ForkInn x = new ForkInn();
        due("undo()", x.undo(), NONE);
        x.go(1);
        x.image();
        x.go(1);
        x.image();
        x.go(5);
        due("undo(): the latest", x.undo(), 2);
        x.go(7);
        due("undo(): it stays", x.undo(), 2);
        due("count(0)", x.count(0), 2);
        due("status(3): undo takes none back", x.status(3), 1);
        x.guest(5);
        x.image();
        x.seat(0, 0, 6);
        x.ahead(0, 0, 5);
        x.undo();
        due("ofGuest(0, 0)", x.ofGuest(0, 0), 5);
        x.seat(0, 0, 6);
        x.undo();
        due("ofGuest(0, 0) again", x.ofGuest(0, 0), 5);
    }

    private static void tear() {
        promise = 41;
        ForkInn x = new ForkInn();
        due("tear()", x.tear(), 0);
        x.image();
        x.image();
        x.go(2);
        due("tear()", x.tear(), 1);
        due("tear()", x.tear(), 0);
        due("undo()", x.undo(), NONE);
        due("count(0)", x.count(0), 2);
        x.image();
        due("undo()", x.undo(), 2);
        due("tear()", x.tear(), 1);
    }

    private static void count() {
        promise = 42;
        ForkInn x = inn("mutton 1 2 price 4 served 7; pie 1 2 served 20; guest 3; guest 4; guest 5");
        x.go(5);
        x.seat(2, 2, 1000);
        x.feed(0, 3);
        x.seed(-9);
        x.hold(0, 1);
        x.hold(3, 1);
        x.hold(9, 0);
        int[] want = {5, 2, 3, 1020, 32, 3, -9, 3};
        for (int what = 0; what < 8; what++) {
            due("count(" + what + ")", x.count(what), want[what]);
        }
        due("count(-1)", x.count(-1), BEYOND);
        due("count(8)", x.count(8), BEYOND);
    }

    private static void status() {
        promise = 43;
        ForkInn x = new ForkInn();
        for (int which = -1; which < 7; which++) {
            due("status(" + which + ")", x.status(which), 0);
        }
        due("status(7)", x.status(7), BEYOND);
        due("status(0)", x.status(0), 1);
        due("status(-2)", x.status(-2), BEYOND);
        due("status(-1)", x.status(-1), 2);
        x.image();
        x.undo();
        x.tear();
        for (int k = 0; k < 6; k++) {
            x.guest(1);
        }
        x.guest(1);
        x.guest(1);
        x.guest(1);
        x.dish(PIE, 0, 0);
        x.hold(0, 0);
        for (int k = 0; k < 4; k++) {
            x.as(0, ROAST);
        }
        x.undo();
        x.undo();
        x.undo();
        x.undo();
        x.when(0, 5);
        x.change(0, 5, 1);
        for (int k = 0; k < 6; k++) {
            x.eat(0, 0);
        }
        for (int k = 0; k < 7; k++) {
            x.judge(0);
        }
        for (int k = 0; k < 8; k++) {
            x.sheet(0, 8, -1);
        }
        x.odds(9, 9, 9, 9);
        x.text();
        int[] want = {3, 3, 4, 5, 6, 7, 8};
        for (int which = 0; which < 7; which++) {
            due("status(" + which + ")", x.status(which), want[which]);
        }
        due("status(-1)", x.status(-1), 36);
        x.image();
        x.guest(-1);
        x.undo();
        due("status(-1): undo takes none back", x.status(-1), 37);
    }
}
