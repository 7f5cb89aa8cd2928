/**
 * The edges that the promises name, one after the other: the last number that is still allowed and the first that
 * isn't, empty and full, what wraps around. Texts are in TextEdgeTest, the bounds of facts in TermsEdgeTest.
 */
public final class PromiseEdgeTest {
    private static final String EATER = "text 'mutton 1 2 price 1;guest 0'\n";

    /** One helping of PEAS in six DAYS, by the right until BENT is held at 99, then (the 34th) by the left. */
    private static final String SELDOM = """
        text 'peas 4 5;guest 67 for 9;guest 0 for 9'
        text 'meal 0 5 0;meal 1 5 0;meal 2 5 0;meal 3 5 0;meal 4 5 0;meal 5 5 0'
        """;

    public static void main(String[] args) {
        newObject();
        list();
        dishAndGuest();
        facts();
        would();
        eat();
        go();
        now();
        nowOfNobody();
        ahead();
        served();
        when();
        owes();
        part();
        dishFor();
        kindFor();
        bentFor();
        courses();
        strike();
        strikeAll();
        fits();
        fitsAtTheEnds();
        kinds();
        coach();
        odds();
        seed();
        hold();
        as();
        sheet();
        write();
        copy();
        copyOverItself();
        load();
        judge();
        image();
        imageKeepsAll();
        undo();
        tear();
        count();
        status();
        Script.end();
    }

    // ---- inn

    private static void newObject() {
        Script.says("Promise 1: All as at first; no DISHES, no GUESTS; THE TAPE is empty, no image is kept", """
            status(-1) = 0
            count(0) = 0
            count(1) = 0
            count(2) = 0
            count(3) = 0
            count(4) = 0
            count(5) = 0
            count(6) = 1
            count(7) = 0
            listed(0) = 0
            listed(1) = 0
            listed(2) = 0
            listed(3) = 0
            listed(4) = 0
            listed(5) = 0
            of(0, 0) = BEYOND
            ofGuest(0, 0) = BEYOND
            as(0, 0) = MISSING
            as(9, 6) = MISSING
            load(0) = MISSING
            load(1) = MISSING
            load(2) = MISSING
            load(3) = MISSING
            undo() = NONE
            tear() = 0
            wipe() = 0
            text() = -1
            status(-1) = 9
            """);
    }

    private static void list() {
        Script.says("Promise 2: place i (0 to 5), a GUEST (0 to 5) and a DISH (0 to 7): which it was", """
            list(0, 0, 0) = 0
            list(0, 5, 7) = 0
            list(0, 0, 0) = 57
            list(5, 0, 7) = 0
            list(5, 5, 0) = 7
            list(5, 5, 7) = 50
            list(6, 0, 0) = BEYOND
            list(-1, 0, 0) = BEYOND
            list(5, 6, 0) = BEYOND
            list(5, -1, 0) = BEYOND
            list(5, 0, 8) = BEYOND
            list(5, 0, -1) = BEYOND
            listed(5) = 57
            """);
        Script.says("Promise 3: The MEAL in a place of THE LIST", """
            list(0, 1, 2)
            list(5, 3, 4)
            listed(0) = 12
            listed(5) = 34
            listed(-1) = BEYOND
            listed(6) = BEYOND
            """);
    }

    private static void dishAndGuest() {
        Script.says("Promise 4: A new DISH with a LEFT and a RIGHT TOWN: its number. BEYOND. FULL", """
            dish(0, 0, 11) = 0
            dish(6, 11, 0) = 1
            dish(7, 0, 0) = BEYOND
            dish(-1, 0, 0) = BEYOND
            of(0, 1) = 0
            of(0, 2) = 11
            of(1, 1) = 11
            of(1, 2) = 0
            dish(0, 1, 1) = 2
            dish(0, 1, 1) = 3
            dish(0, 1, 1) = 4
            dish(0, 1, 1) = 5
            dish(0, 1, 1) = 6
            dish(0, 1, 1) = 7
            dish(0, 1, 1) = FULL
            dish(0, 1, 12) = BEYOND
            """);
        Script.says("Promise 5: A new GUEST with a BENT: the number. BEYOND. FULL", """
            guest(0) = 0
            guest(99) = 1
            guest(100) = BEYOND
            guest(-1) = BEYOND
            guest(1) = 2
            guest(1) = 3
            guest(1) = 4
            guest(1) = 5
            guest(1) = FULL
            guest(100) = BEYOND
            """);
    }

    private static void facts() {
        Script.says("Promises 6, 7: of a DISH, what 0 to 5", """
            text 'pie 3 4 price 5 served 6 off;trifle 7 8' = 2
            of(0, 0) = 1
            of(0, 1) = 3
            of(0, 2) = 4
            of(0, 3) = 5
            of(0, 4) = 6
            of(0, 5) = 1
            of(0, 6) = BEYOND
            of(0, -1) = BEYOND
            of(1, 0) = 4
            of(2, 0) = BEYOND
            of(-1, 5) = BEYOND
            change(1, 0, 5) = 4
            change(1, 5, 1) = 0
            change(1, 6, 0) = BEYOND
            change(1, -1, 0) = BEYOND
            change(2, 0, 0) = BEYOND
            change(-1, 0, 0) = BEYOND
            of(0, 0) = 1
            of(1, 0) = 5
            """);
        Script.says("Promises 8, 9: of a GUEST, what 0 to 4", """
            text 'guest 1 for 2;guest 3 for 4' = 2
            seat(0, 2, 5) = 0
            seat(0, 3, 6) = 0
            seat(0, 4, 7) = 0
            ofGuest(0, 0) = 1
            ofGuest(0, 1) = 2
            ofGuest(0, 2) = 5
            ofGuest(0, 3) = 6
            ofGuest(0, 4) = 7
            ofGuest(0, 5) = BEYOND
            ofGuest(0, -1) = BEYOND
            ofGuest(1, 0) = 3
            ofGuest(2, 0) = BEYOND
            ofGuest(-1, 4) = BEYOND
            seat(1, 0, 8) = 3
            seat(1, 4, 9) = 0
            seat(1, 5, 0) = BEYOND
            seat(1, -1, 0) = BEYOND
            seat(2, 0, 0) = BEYOND
            seat(-1, 0, 0) = BEYOND
            ofGuest(0, 0) = 1
            ofGuest(0, 4) = 7
            """);
    }

    private static void would() {
        Script.says("Promise 10: what 0 to 3; (OFF or not)", """
            text 'roast 7 8 price 20 off;guest 29;guest 30' = 3
            would(0, 0, 0) = 1
            would(0, 0, 1) = 22
            would(0, 0, 2) = -10
            would(0, 0, 3) = 7
            would(1, 0, 0) = 0
            would(1, 0, 1) = 23
            would(1, 0, 2) = 10
            would(1, 0, 3) = 8
            would(1, 0, 4) = BEYOND
            would(1, 0, -1) = BEYOND
            would(2, 0, 0) = BEYOND
            would(1, 1, 0) = BEYOND
            change(0, 5, 0)
            would(1, 0, 3) = 8
            """);
    }

    private static void eat() {
        Script.says("Promise 11: the TOWN for which it is then. BEYOND. STATE: the DISH is OFF", """
            text 'dish 0 11;guest 49;guest 50' = 3
            eat(0, 0) = 0
            eat(1, 0) = 11
            count(0) = 0
            ofGuest(0, 0) = 44
            ofGuest(1, 0) = 55
            of(0, 4) = 2
            eat(2, 0) = BEYOND
            eat(0, 1) = BEYOND
            change(0, 5, 1)
            eat(0, 0) = STATE
            eat(2, 0) = BEYOND
            change(0, 5, 0)
            eat(0, 0) = 0
            """);
    }

    // ---- days

    private static void go() {
        Script.says("Promise 12: n DAYS (1 to 60): BILLS of all together then. BEYOND", EATER, """
            go(0) = BEYOND
            go(1) = 1
            go(60) = 61
            go(61) = BEYOND
            count(0) = 61
            """);
        Script.says("Promise 12: BILLS of all together: of 6 GUESTS that owe 99999, and of nobody", """
            go(1) = 0
            text 'guest 0;guest 0;guest 0;guest 0;guest 0;guest 0' = 6
            seat(0, 2, 99999)
            seat(1, 2, 99999)
            seat(2, 2, 99999)
            seat(3, 2, 99999)
            seat(4, 2, 99999)
            seat(5, 2, 99999)
            go(60) = 599994
            now(1) = 599994
            count(3) = 599994
            """);
        Script.says("Promise 12: STATE: DAY would be above 99999", EATER, """
            day 99939
            go(60) = 60
            count(0) = 99999
            day 99940
            go(60) = STATE
            go(59) = 119
            go(1) = STATE
            day 99998
            go(2) = STATE
            go(1) = 120
            count(0) = 99999
            """);
    }

    private static void now() {
        Script.says("Promise 13: what 0 to 7, of 8 DISHES and 6 GUESTS", """
            text 'mutton 0 1;mutton 11 1;pie 2 2;pie 2 2;pie 2 2;pie 2 2;pie 2 2;pie 2 2' = 8
            now(6) = 255
            change(7, 5, 1)
            now(6) = 127
            change(0, 5, 1)
            now(6) = 126
            change(0, 5, 0)
            change(7, 4, 9999)
            change(6, 4, 9999)
            now(4) = 19998
            text 'guest 0;guest 0;guest 0;guest 0;guest 0;guest 0' = 6
            now(2) = 1
            now(3) = 0
            now(5) = 0
            now(7) = 0
            eat(5, 1) = 11
            now(2) = 2049
            now(3) = 2048
            now(5) = 5
            now(7) = 5
            eat(0, 0) = 0
            now(3) = 2049
            now(7) = 0
            seat(1, 1, 1)
            seat(2, 1, 2)
            seat(3, 1, 3)
            seat(4, 1, 4)
            now(5) = 15
            now(2) = 2079
            seat(4, 3, 4095)
            now(3) = 4095
            now(4) = 20000
            now(0) = 0
            now(-1) = BEYOND
            now(8) = BEYOND
            """);
    }

    private static void nowOfNobody() {
        Script.says("Promise 13: no GUESTS, no DISHES; who owes most (-1: there is nobody)", """
            now(0) = 0
            now(1) = 0
            now(2) = 0
            now(3) = 0
            now(4) = 0
            now(5) = 0
            now(6) = 0
            now(7) = -1
            guest(9)
            now(7) = 0
            now(5) = 0
            now(2) = 1
            guest(9)
            seat(1, 2, 1)
            now(7) = 1
            seat(0, 2, 1)
            now(7) = 0
            seat(1, 2, 99999)
            now(7) = 1
            seat(0, 2, 99999)
            now(7) = 0
            dish(0, 0, 0)
            now(6) = 1
            change(0, 5, 1)
            now(6) = 0
            """);
    }

    // ---- what will be

    private static void ahead() {
        Script.says("Promise 14: behind n (0 to 100) DAYS", EATER, """
            ahead(0, 0, 0) = 0
            ahead(0, 1, 0) = 0
            ahead(0, 1, 1) = 1
            ahead(0, 2, 0) = 0
            ahead(0, 2, 1) = 1
            ahead(0, 2, 100) = 100
            ahead(0, 3, 100) = 2
            ahead(0, 4, 100) = 100
            ahead(0, 4, 101) = BEYOND
            ahead(0, 4, -1) = BEYOND
            ahead(0, 5, 0) = BEYOND
            ahead(0, -1, 0) = BEYOND
            ahead(1, 0, 0) = BEYOND
            count(0) = 0
            go(60)
            ahead(0, 4, 100) = 160
            """);
    }

    private static void served() {
        Script.says("Promise 15: behind n (0 to 100) DAYS", EATER, """
            served(0, 0) = 0
            served(0, 1) = 1
            served(0, 100) = 100
            served(0, 101) = BEYOND
            served(0, -1) = BEYOND
            served(1, 0) = BEYOND
            of(0, 4) = 0
            change(0, 5, 1)
            served(0, 100) = 0
            """);
    }

    private static void when() {
        Script.says("Promise 16: Behind how many DAYS (0 to 200, the fewest)", SELDOM, """
            list(1, 0, 0)
            when(0, 9) = 0
            when(0, 5) = 2
            when(0, 4) = 200
            when(0, 0) = NONE
            when(1, 5) = NONE
            """);
        Script.says("Promise 16: NONE: behind 201 DAYS", SELDOM, """
            list(2, 0, 0)
            when(0, 5) = 3
            when(0, 4) = NONE
            # from the next DAY on it is a DAY less
            go(1)
            when(0, 5) = 2
            when(0, 4) = 200
            """);
    }

    private static void owes() {
        Script.says("Promise 17: Behind how many DAYS (0 to 200, the fewest) BILL is v (0 to 99999) or more", SELDOM, """
            list(1, 0, 0)
            owes(0, 0) = 0
            owes(1, 0) = 0
            owes(0, 1) = 2
            owes(0, 2) = 8
            owes(0, 34) = 200
            owes(0, 35) = NONE
            owes(1, 1) = NONE
            seat(0, 2, 7)
            owes(0, 7) = 0
            owes(0, 6) = 0
            owes(0, 8) = 2
            seat(0, 2, 99998)
            owes(0, 99998) = 0
            owes(0, 99999) = 2
            owes(0, 100000) = BEYOND
            owes(0, -1) = BEYOND
            owes(1, 99999) = NONE
            seat(1, 2, 99999)
            owes(1, 99999) = 0
            """);
        Script.says("Promise 17: NONE: behind 201 DAYS", SELDOM, """
            list(2, 0, 0)
            owes(0, 33) = 195
            owes(0, 34) = NONE
            """);
    }

    private static void part() {
        Script.says("Promise 18: Behind how many DAYS (0 to 200, the fewest) two GUESTS are FOR different TOWNS", SELDOM, """
            list(1, 0, 0)
            part(0, 1) = 2
            part(1, 0) = 2
            seat(0, 1, 5)
            part(0, 1) = 0
            seat(1, 1, 5)
            part(0, 1) = 200
            part(1, 0) = 200
            part(0, 0) = BEYOND
            part(1, 1) = BEYOND
            part(0, 2) = BEYOND
            part(2, 0) = BEYOND
            """);
        Script.says("Promise 18: NONE: behind 201 DAYS", SELDOM, """
            list(2, 0, 0)
            seat(0, 1, 5)
            seat(1, 1, 5)
            part(0, 1) = NONE
            part(1, 0) = NONE
            """);
    }

    // ---- which dish, how bent

    private static void dishFor() {
        Script.says("Promise 19: The DISH (0 to 7); behind n (0 to 60) DAYS", """
            text 'mutton 1 2 price 9;mutton 1 2 price 8;mutton 1 2 price 7;mutton 1 2 price 6' = 4
            text 'mutton 1 2 price 5;mutton 1 2 price 4;mutton 1 2 price 3;mutton 1 2 price 2;guest 0' = 5
            dishFor(0, 0) = 0
            dishFor(0, 1) = 7
            dishFor(0, 60) = 7
            dishFor(5, 5) = 0
            dishFor(5, 6) = 7
            dishFor(0, 61) = BEYOND
            dishFor(0, -1) = BEYOND
            dishFor(-1, 6) = BEYOND
            dishFor(6, 6) = BEYOND
            change(0, 3, 0)
            dishFor(0, 60) = 0
            change(7, 3, 0)
            dishFor(0, 60) = 0
            listed(0) = 0
            """);
        Script.says("Promise 19: without DISHES or without its GUEST all do, so 0; one that isn't there costs nothing", """
            dishFor(0, 60) = 0
            guest(0)
            dishFor(0, 60) = 0
            dish(5, 1, 2)
            dishFor(0, 60) = 1
            dish(5, 1, 2)
            dishFor(0, 60) = 2
            list(1, 5, 0)
            dishFor(1, 60) = 0
            change(0, 5, 1)
            dishFor(0, 60) = 0
            """);
        Script.says("Promise 19: BILLS of 6 GUESTS that owe 99999", """
            text 'mutton 1 2;guest 0;guest 0;guest 0;guest 0;guest 0;guest 0' = 7
            seat(0, 2, 99999)
            seat(1, 2, 99999)
            seat(2, 2, 99999)
            seat(3, 2, 99999)
            seat(4, 2, 99999)
            seat(5, 2, 99999)
            dishFor(5, 60) = 0
            kindFor(0, 60) = 0
            """);
    }

    private static void kindFor() {
        Script.says("Promise 20: The KIND of which a DISH must be for that; n (0 to 60)", """
            text 'joint 1 2 price 10;guest 50' = 2
            kindFor(0, 0) = 0
            kindFor(0, 1) = 6
            kindFor(0, 60) = 6
            kindFor(0, 61) = BEYOND
            kindFor(0, -1) = BEYOND
            kindFor(1, 0) = BEYOND
            kindFor(-1, 0) = BEYOND
            change(0, 3, 4)
            kindFor(0, 1) = 6
            change(0, 3, 3)
            kindFor(0, 1) = 1
            change(0, 3, 1)
            kindFor(0, 1) = 1
            change(0, 3, 0)
            kindFor(0, 1) = 0
            of(0, 0) = 3
            """);
    }

    private static void bentFor() {
        // Four JOINTS by the left and PEAS are 27 down; a DISH then: 77 and more go 5 up, and only 99 comes to 50
        // behind another four JOINTS and PEAS.
        String drift = """
            text 'dish 1 2;joint 3 9;peas 4 4;guest 0 for 11;guest 0 for 9' = 5
            text 'meal 1 0 1;meal 2 0 1;meal 3 0 1;meal 4 0 1;meal 5 0 2;meal 0 5 5' = 6
            go(1)
            list(0, 0, 0)
            """;
        Script.says("Promise 21: The least BENT (99); n (0 to 60)", drift, """
            bentFor(0, 2, 6) = 77
            bentFor(0, 2, 12) = 99
            bentFor(0, 1, 12) = 0
            bentFor(0, 11, 0) = 0
            bentFor(0, 2, 0) = NONE
            bentFor(0, 2, 61) = BEYOND
            bentFor(0, 2, -1) = BEYOND
            bentFor(0, 1, 60) = 0
            bentFor(0, 3, 60) = NONE
            ofGuest(0, 0) = 0
            """);
        // From place 2 on: four JOINTS (28 down), the DISH, PEAS and four JOINTS: 99 comes to 49, 100 would to 50.
        Script.says("Promise 21: NONE: a BENT of 100 would do", drift, """
            list(1, 5, 5)
            go(1)
            list(1, 0, 2)
            list(5, 0, 1)
            bentFor(0, 2, 5) = 78
            bentFor(0, 2, 11) = NONE
            """);
        Script.says("Promise 21: the thresholds", """
            text 'dish 1 2;roast 3 4;pie 5 6;guest 60 for 7' = 4
            bentFor(0, 1, 1) = 0
            bentFor(0, 2, 1) = 50
            list(0, 0, 1)
            bentFor(0, 4, 1) = 30
            list(0, 0, 2)
            bentFor(0, 6, 1) = 1
            """);
    }

    private static void courses() {
        Script.says("Promise 22: The fewest DISHES (0 to 4)", """
            text 'dish 1 2;roast 3 4;guest 44 for 7;peas 8 9 off' = 4
            courses(0, 7) = 0
            courses(0, 1) = 1
            courses(0, 4) = 1
            # 39, 34, 29, then the ROAST by the left
            courses(0, 3) = 4
            seat(0, 0, 45)
            courses(0, 3) = NONE
            seat(0, 0, 39)
            courses(0, 3) = 3
            seat(0, 0, 29)
            courses(0, 3) = 1
            courses(0, 8) = NONE
            change(2, 5, 0)
            courses(0, 9) = 1
            # FOR it already, though no DISH leads there
            seat(0, 1, 11)
            courses(0, 11) = 0
            change(0, 5, 1)
            change(1, 5, 1)
            change(2, 5, 1)
            courses(0, 11) = 0
            courses(0, 9) = NONE
            """);
        Script.says("Promise 22: (the same one, too); without DISHES", """
            guest(0)
            courses(0, 0) = 0
            courses(0, 1) = NONE
            text 'trifle 1 2 served 9998' = 1
            courses(0, 1) = 1
            courses(0, 2) = 2
            change(0, 4, 9999)
            courses(0, 1) = NONE
            of(0, 4) = 9999
            """);
        Script.says("Promise 22: one course tried leaves nothing to the next that is tried", """
            # BENT and SERVED are even or odd together, so PEAS are by the left whatever goes ahead
            text 'peas 1 2;mutton 3 4;guest 50 for 7' = 3
            courses(0, 1) = 1
            courses(0, 2) = NONE
            # nor is there a DISH behind the last one that would lead to TOWN 0
            courses(0, 0) = NONE
            text 'mutton 3 4;mutton 3 4;mutton 3 4;mutton 3 4;mutton 3 4;mutton 3 4' = 6
            courses(0, 0) = NONE
            courses(0, 2) = NONE
            """);
        Script.says("Promise 22: a JOINT and a DISH, BENT held at 0", """
            text 'joint 1 2;dish 3 4;guest 30;guest 0 for 5' = 4
            # JOINT by the right 43, 56, then the DISH by the right
            courses(0, 4) = 3
            seat(0, 0, 10)
            courses(0, 2) = NONE
            courses(0, 4) = NONE
            seat(0, 0, 49)
            courses(0, 4) = 2
            seat(0, 0, 50)
            courses(0, 4) = 1
            """);
    }

    private static void strike() {
        Script.says("Promise 23: n (0 to 20) DAYS; the set of fewest; NONE", """
            text 'mutton 1 2;mutton 3 4;guest 0 for 7;meal 0 0 1;meal 5 0 1' = 5
            strike(0, 7, 0) = NONE
            strike(0, 1, 0) = 0
            strike(0, 3, 1) = 2
            strike(0, 7, 1) = 0
            strike(0, 1, 20) = 1
            strike(0, 3, 19) = 2
            strike(0, 1, 21) = BEYOND
            strike(0, 1, -1) = BEYOND
            now(6) = 3
            seat(0, 1, 3)
            strike(0, 3, 1) = NONE
            strike(0, 3, 20) = 0
            change(0, 5, 1)
            strike(0, 3, 20) = NONE
            """);
        Script.says("Promise 23: without DISHES", """
            guest(0)
            strike(0, 0, 20) = NONE
            strike(0, 1, 20) = 0
            """);
    }

    private static void strikeAll() {
        Script.says("Promise 23: six of 8 DISHES; one less the one that is OFF", """
            text 'dish 3 4;dish 3 4;mutton 1 2;mutton 1 2;mutton 1 2;mutton 1 2;mutton 1 2;mutton 1 2' = 8
            text 'guest 0;meal 0 0 2;meal 1 0 3;meal 2 0 4;meal 3 0 5;meal 4 0 6;meal 5 0 7' = 7
            strike(0, 1, 1) = 4
            strike(0, 1, 5) = 124
            strike(0, 1, 6) = 252
            strike(0, 1, 20) = 252
            change(7, 5, 1)
            strike(0, 1, 20) = 124
            """);
        Script.says("Promise 23: one of a greater number goes ahead of two", """
            text 'roast 1 1;roast 1 1;dish 3 4;guest 65;meal 1 0 1;meal 2 0 2' = 6
            strike(0, 4, 3) = 4
            """);
    }

    // ---- told towns

    private static void fits() {
        Script.says("Promise 24: now and behind each DAY further on is as a sheet tells (-1: any)", """
            text 'roast 1 2;guest 10 for 5' = 2
            tell 0 8: 5
            fits(0, 0) = 100
            tell 0 8: 4
            fits(0, 0) = 0
            tell 0 8: 5 1
            fits(0, 0) = 30
            tell 0 8: 5 2
            fits(0, 0) = 70
            tell 0 8: -1 -1
            fits(0, 0) = 100
            tell 0 8: -1 2
            fits(0, 0) = 70
            tell 0 8: 5 -2
            fits(0, 0) = 0
            tell 0 8: 5 12
            fits(0, 0) = 0
            ofGuest(0, 0) = 10
            """);
        Script.says("Promise 24: (-1: any) in 8, 16, 32 bits (its lowest bits)", """
            text 'roast 1 2;guest 10 for 5' = 2
            tell 0 8: 255
            fits(0, 0) = 100
            tell 0 8: 261
            fits(0, 0) = 100
            tell 1 16: 65535
            fits(1, 0) = 100
            tell 1 16: 255
            fits(1, 0) = 0
            tell 1 16: 65541
            fits(1, 0) = 100
            tell 2 32: -1
            fits(2, 0) = 100
            tell 2 32: 65535
            fits(2, 0) = 0
            tell 2 32: 65541
            fits(2, 0) = 0
            """);
    }

    private static void fitsAtTheEnds() {
        Script.says("Promise 24: a sheet of 0 and of 40 numbers", """
            text 'mutton 0 1;guest 10;guest 20 for 1' = 3
            sheet(0, 8, 0) = 0
            fits(0, 0) = 100
            fits(0, 1) = 100
            sheet(3, 32, 40) = 40
            fits(3, 0) = 100
            fits(3, 1) = 0
            write(3, 39, 1) = 1
            fits(3, 0) = 0
            write(3, 39, -1) = 1
            fits(3, 0) = 100
            write(3, 0, 1) = 1
            fits(3, 0) = 0
            write(3, 0, -1) = 1
            fits(3, 0) = 100
            fits(3, 2) = BEYOND
            fits(3, -1) = BEYOND
            fits(4, 0) = BEYOND
            fits(-1, 0) = BEYOND
            fits(1, 0) = MISSING
            """);
        // 39 DAYS behind now, and not a DAY more: the MEAL of the 39th (DAY 38, place 2) is told by the 40th number.
        Script.says("Promise 24: the 40th number is behind 39 DAYS", """
            text 'mutton 0 1;mutton 3 3;guest 10;meal 2 0 1' = 4
            go(1)
            sheet(0, 8, 40) = 40
            write(0, 2, 3) = 1
            write(0, 8, 3) = 1
            write(0, 14, 3) = 1
            write(0, 20, 3) = 1
            write(0, 26, 3) = 1
            write(0, 32, 3) = 1
            write(0, 38, 3) = 1
            fits(0, 0) = 100
            go(5)
            fits(0, 0) = 0
            """);
    }

    private static void kinds() {
        Script.says("Promise 25: KINDS that a DISH could be of, as a set", """
            text 'roast 1 2;guest 30 for 5;guest 9 for 2;mutton 1 2' = 4
            sheet(0, 8, 0) = 0
            kinds(0, 0, 0) = 127
            tell 0 8: 5
            kinds(0, 0, 0) = 127
            tell 0 8: 4
            kinds(0, 0, 0) = 0
            tell 0 8: 5 2
            kinds(0, 0, 0) = 4
            tell 0 8: 5 1
            kinds(0, 0, 0) = 123
            tell 0 8: -1 -1
            kinds(0, 0, 0) = 127
            # DISH 1 isn't eaten, so that it doesn't count of which kind it is
            tell 0 8: 5 2
            kinds(0, 1, 0) = 127
            tell 0 8: 5 1
            kinds(0, 1, 0) = 0
            kinds(0, 2, 0) = BEYOND
            kinds(0, -1, 0) = BEYOND
            kinds(0, 0, 2) = BEYOND
            kinds(0, 0, -1) = BEYOND
            kinds(1, 0, 0) = MISSING
            kinds(4, 0, 0) = BEYOND
            kinds(-1, 0, 0) = BEYOND
            of(0, 0) = 2
            """);
        Script.says("Promise 25: a sheet of 40 numbers", """
            text 'dish 0 1;guest 0' = 2
            sheet(3, 16, 40) = 40
            # by the left for 40 DAYS: DISH (from 0 on), ROAST, JOINT, MUTTON, PIE (even), PEAS (both even or odd)
            kinds(3, 0, 0) = 111
            write(3, 39, 1) = 1
            kinds(3, 0, 0) = 0
            write(3, 39, -1) = 1
            kinds(3, 0, 0) = 111
            """);
    }

    // ---- coaches

    private static void coach() {
        Script.says("Promise 26: n times (1 to 20). BEYOND", """
            coach(0) = BEYOND
            coach(1) = 0
            count(0) = 1
            coach(20) = 0
            count(0) = 21
            coach(21) = BEYOND
            coach(-1) = BEYOND
            count(0) = 21
            """);
        Script.says("Promise 26: STATE: DAY would be above 99999", """
            day 99979
            coach(20) = 0
            count(0) = 99999
            day 99980
            coach(20) = STATE
            coach(19) = 0
            count(0) = 99999
            coach(1) = STATE
            """);
        // From 1: 1103527590, then 2524885223 (below 0 as an int): rests of 4310654 by 6 and of 9862832 by 8.
        Script.says("Promise 26: the GUEST of the first one's rest by 6 and the DISH of the second one's rest by 8", """
            seed(1)
            coach(1) = 0
            count(6) = -1770082073
            listed(0) = 20
            listed(1) = 0
            """);
    }

    private static void odds() {
        Script.says("Promise 27: n (0 to 9), above (what 0), below the line (1): in lowest terms", """
            text 'dish 1 2;roast 1 2;mutton 1 2;trifle 1 2 served 1;joint 1 2;pie 1 2 off;guest 0;guest 0' = 8
            odds(0, 0, 0, 0) = 1
            odds(0, 0, 0, 1) = 1
            odds(0, 0, 1, 0) = 1
            odds(0, 0, 1, 1) = 2
            odds(0, 0, 9, 0) = 1
            odds(0, 0, 9, 1) = 512
            odds(0, 1, 1, 0) = 3
            odds(0, 1, 1, 1) = 10
            odds(0, 1, 9, 0) = 19683
            odds(0, 1, 9, 1) = 1000000000
            odds(0, 2, 9, 0) = 1
            odds(0, 2, 9, 1) = 1
            odds(0, 3, 9, 0) = 0
            odds(0, 3, 9, 1) = 1
            odds(0, 3, 1, 0) = 0
            odds(0, 3, 1, 1) = 1
            odds(0, 3, 0, 0) = 1
            odds(0, 3, 0, 1) = 1
            odds(0, 4, 2, 1) = 100
            seat(1, 1, 2)
            odds(0, 4, 2, 1) = 1
            odds(1, 4, 2, 1) = 100
            odds(0, 5, 2, 1) = 4
            odds(0, 0, 10, 0) = BEYOND
            odds(0, 0, -1, 0) = BEYOND
            odds(0, 0, 0, 2) = BEYOND
            odds(0, 0, 0, -1) = BEYOND
            odds(2, 0, 0, 0) = BEYOND
            odds(0, 6, 0, 0) = BEYOND
            count(6) = 1
            """);
    }

    private static void seed() {
        Script.says("Promise 28: z becomes v: what it was", """
            seed(MIN) = 1
            seed(MAX) = MIN
            seed(-1000001) = MAX
            seed(0) = -1000001
            seed(-1) = 0
            count(6) = -1
            status(-1) = 0
            """);
    }

    // ---- spots, sheets

    private static void hold() {
        Script.says("Promise 32: A SPOT (0 to 9) holds a DISH, or nothing (-1): 1. BEYOND", """
            hold(0, -1) = 1
            hold(9, -1) = 1
            hold(0, 0) = BEYOND
            count(7) = 0
            dish(0, 0, 0)
            dish(0, 0, 0)
            hold(0, 0) = 1
            hold(9, 1) = 1
            count(7) = 2
            hold(9, 2) = BEYOND
            hold(9, -2) = BEYOND
            hold(10, 0) = BEYOND
            hold(-1, 0) = BEYOND
            as(0, 0) = 0
            as(9, 0) = 1
            hold(0, 1) = 1
            as(0, 0) = 1
            hold(0, -1) = 1
            count(7) = 1
            as(0, 0) = MISSING
            """);
        Script.says("Promise 32: all ten SPOTS, the same DISH", """
            dish(0, 0, 0)
            hold(0, 0) = 1
            hold(1, 0) = 1
            hold(2, 0) = 1
            hold(3, 0) = 1
            hold(4, 0) = 1
            hold(5, 0) = 1
            hold(6, 0) = 1
            hold(7, 0) = 1
            hold(8, 0) = 1
            hold(9, 0) = 1
            count(7) = 10
            """);
    }

    private static void as() {
        // For each KIND the kinds as which it goes: itself and those above it.
        int[] goes = {1, 1 + 2, 1 + 4, 1 + 4 + 8, 1 + 4 + 8 + 16, 1 + 32, 1 + 2 + 64};
        for (int kind = 0; kind < 7; kind++) {
            for (int asked = 0; asked < 7; asked++) {
                boolean fine = (goes[kind] >> asked & 1) == 1;
                Script.says("Promise 33: as one of a kind. KIND: it isn't of that kind, nor of one under it",
                    "dish(0, 0, 0)", "dish(" + kind + ", 0, 0)", "hold(9, 1)",
                    "as(9, " + asked + ") = " + (fine ? "1" : "KIND"));
            }
        }
        Script.says("Promise 33: a kind (0 to 6). BEYOND. MISSING: it holds nothing", """
            dish(6, 0, 0)
            hold(0, 0)
            as(0, 0) = 0
            as(0, 6) = 0
            as(0, 7) = BEYOND
            as(0, -1) = BEYOND
            as(-1, 0) = BEYOND
            as(10, 0) = BEYOND
            as(9, 0) = MISSING
            hold(0, -1)
            as(0, 0) = MISSING
            hold(0, 0)
            change(0, 0, 4)
            as(0, 6) = KIND
            as(0, 3) = 0
            """);
    }

    private static void sheet() {
        Script.says("Promise 34: n numbers, all 0, of 8, 16 or 32 bits; bits 0: it is MISSING: n (0 if it is MISSING)", """
            sheet(0, 8, 40) = 40
            sheet(1, 16, 40) = 40
            sheet(2, 32, 40) = 40
            sheet(3, 8, 0) = 0
            sheet(3, 16, 0) = 0
            sheet(3, 32, 0) = 0
            judge(3) = 0
            sheet(3, 0, 0) = 0
            judge(3) = MISSING
            sheet(2, 0, 40) = 0
            judge(2) = MISSING
            sheet(0, 0, 1) = 0
            judge(0) = MISSING
            sheet(0, 0, 5) = 0
            sheet(0, 8, 1) = 1
            judge(0) = 1
            sheet(0, 8, 41) = BEYOND
            sheet(0, 8, -1) = SIZE
            sheet(0, 12, 1) = BEYOND
            sheet(4, 8, 1) = BEYOND
            sheet(-1, 8, 1) = BEYOND
            write(1, 39, 1) = 1
            write(1, 40, 1) = BEYOND
            write(0, 0, 1) = 1
            write(0, 1, 1) = BEYOND
            """);
        Script.says("Promise 34: all 0, whatever they were", """
            text 'guest 5;guest 6;guest 7' = 3
            tell 0 8: 11 12 13
            sheet(0, 8, 3) = 3
            load(0) = 3
            ofGuest(0, 0) = 0
            ofGuest(1, 0) = 0
            ofGuest(2, 0) = 0
            tell 0 8: 11 12 13
            sheet(0, 8, 1) = 1
            sheet(0, 8, 3) = 3
            load(0) = 3
            ofGuest(2, 0) = 0
            tell 0 8: 11 12 13
            sheet(0, 0, 3) = 0
            sheet(0, 16, 3) = 3
            load(0) = 3
            ofGuest(2, 0) = 0
            """);
    }

    /** Writes a number to a sheet of so many bits and loads it: a BENT, or what isn't one. */
    private static void written(int bits, int v, int bent) {
        Script.says("Promise 35: Number i becomes v (its lowest bits): " + v + " in " + bits, "guest(50)",
            "sheet(0, " + bits + ", 2)", "write(0, 0, " + v + ") = 1", "load(0) = " + (bent < 0 ? 0 : 1),
            "ofGuest(0, 0) = " + (bent < 0 ? 50 : bent));
    }

    private static void write() {
        int[][] rows = {{8, 0, 0}, {8, 99, 99}, {8, 100, -1}, {8, 127, -1}, {8, 128, -1}, {8, 255, -1}, {8, 256, 0},
            {8, 355, 99}, {8, 356, -1}, {8, -1, -1}, {8, -157, 99}, {8, -256, 0}, {8, 65536 + 7, 7},
            {16, 99, 99}, {16, 256, -1}, {16, 355, -1}, {16, 65535, -1}, {16, 65536, 0}, {16, 65635, 99},
            {16, -65437, 99}, {16, -1, -1},
            {32, 99, 99}, {32, 256, -1}, {32, 65536, -1}, {32, -1, -1}, {32, Integer.MIN_VALUE, -1},
            {32, Integer.MAX_VALUE, -1}, {8, Integer.MIN_VALUE, 0}, {16, Integer.MIN_VALUE, 0},
            {8, Integer.MAX_VALUE, -1}, {16, Integer.MAX_VALUE, -1}};
        for (int[] r : rows) {
            written(r[0], r[1], r[2]);
        }
        Script.says("Promise 35: BEYOND: no such sheet. MISSING. BEYOND: no such number", """
            write(0, 0, 1) = MISSING
            sheet(0, 8, 0) = 0
            write(0, 0, 1) = BEYOND
            sheet(0, 8, 1) = 1
            write(0, 0, 1) = 1
            write(0, 1, 1) = BEYOND
            write(0, -1, 1) = BEYOND
            sheet(0, 8, 40) = 40
            write(0, 39, 1) = 1
            write(0, 40, 1) = BEYOND
            write(4, 0, 1) = BEYOND
            write(-1, 0, 1) = BEYOND
            """);
    }

    private static void copy() {
        Script.says("Promise 36: n numbers from one on come to another one from one on: n", """
            text 'guest 0;guest 0;guest 0' = 3
            tell 0 8: 11 12 13
            tell 1 8: 21 22
            copy(0, 2, 1, 1, 1) = 1
            load(1) = 2
            ofGuest(0, 0) = 21
            ofGuest(1, 0) = 13
            copy(0, 0, 1, 0, 2) = 2
            load(1) = 2
            ofGuest(0, 0) = 11
            ofGuest(1, 0) = 12
            copy(0, 0, 1, 0, 0) = 0
            copy(0, 3, 1, 2, 0) = 0
            copy(0, 4, 1, 2, 0) = BEYOND
            copy(0, 3, 1, 3, 0) = BEYOND
            copy(0, 0, 1, 0, 3) = BEYOND
            copy(1, 0, 0, 0, 3) = BEYOND
            copy(1, 0, 0, 1, 2) = 2
            load(0) = 3
            ofGuest(0, 0) = 11
            ofGuest(1, 0) = 11
            ofGuest(2, 0) = 12
            """);
        Script.says("Promise 36: sheets of 40 and of 0 numbers", """
            guest(0)
            sheet(0, 32, 40) = 40
            sheet(1, 32, 40) = 40
            sheet(2, 32, 0) = 0
            write(0, 39, 77) = 1
            copy(0, 0, 1, 0, 40) = 40
            copy(0, 0, 1, 0, 41) = BEYOND
            copy(0, 0, 1, 1, 40) = BEYOND
            copy(0, 1, 1, 0, 40) = BEYOND
            copy(1, 39, 0, 0, 1) = 1
            load(0) = 1
            ofGuest(0, 0) = 77
            copy(0, 40, 1, 40, 0) = 0
            copy(0, 41, 1, 40, 0) = BEYOND
            copy(2, 0, 0, 0, 0) = 0
            copy(2, 0, 2, 0, 0) = 0
            copy(2, 0, 0, 0, 1) = BEYOND
            copy(0, 0, 2, 0, 1) = BEYOND
            copy(2, 1, 0, 0, 0) = BEYOND
            """);
    }

    private static void copyOverItself() {
        Script.says("Promise 36: (as they all were): within one sheet, forward and back", """
            text 'guest 0;guest 0;guest 0;guest 0' = 4
            tell 0 16: 1 2 3 4
            copy(0, 0, 0, 1, 3) = 3
            load(0) = 4
            ofGuest(0, 0) = 1
            ofGuest(1, 0) = 1
            ofGuest(2, 0) = 2
            ofGuest(3, 0) = 3
            tell 0 16: 1 2 3 4
            copy(0, 1, 0, 0, 3) = 3
            load(0) = 4
            ofGuest(0, 0) = 2
            ofGuest(1, 0) = 3
            ofGuest(2, 0) = 4
            ofGuest(3, 0) = 4
            copy(0, 0, 0, 0, 4) = 4
            load(0) = 4
            ofGuest(0, 0) = 2
            """);
    }

    private static void load() {
        Script.says("Promise 37: It ends at the first that isn't 0 to 99, or for which there is nobody", """
            sheet(0, 8, 40) = 40
            load(0) = 0
            text 'guest 50;guest 51;guest 52' = 3
            sheet(1, 8, 0) = 0
            load(1) = 0
            ofGuest(0, 0) = 50
            tell 1 8: 0 99
            load(1) = 2
            ofGuest(0, 0) = 0
            ofGuest(1, 0) = 99
            ofGuest(2, 0) = 52
            tell 1 8: 7 100 8
            load(1) = 1
            ofGuest(0, 0) = 7
            ofGuest(1, 0) = 99
            ofGuest(2, 0) = 52
            tell 1 8: -1 8 9
            load(1) = 0
            ofGuest(0, 0) = 7
            tell 1 8: 1 2 3
            load(1) = 3
            tell 1 8: 4 5 6 7
            load(1) = 3
            ofGuest(2, 0) = 6
            text 'guest 0;guest 0;guest 9' = 3
            load(0) = 6
            ofGuest(5, 0) = 0
            load(4) = BEYOND
            load(-1) = BEYOND
            load(3) = MISSING
            """);
    }

    private static void judge() {
        Script.says("Promise 38: 0 if so; else 1 and the place of the first that isn't so", """
            sheet(0, 8, 0) = 0
            judge(0) = 0
            sheet(0, 8, 1) = 1
            judge(0) = 1
            text 'guest 0 for 0;guest 0 for 11' = 2
            judge(0) = 0
            tell 1 8: 0 11
            judge(1) = 0
            tell 1 8: 0 10
            judge(1) = 2
            tell 1 8: 1 10
            judge(1) = 1
            tell 1 8: 0 11 0
            judge(1) = 3
            tell 1 8: 0 -1
            judge(1) = 2
            tell 1 8: 256 267
            judge(1) = 0
            tell 1 32: 256 267
            judge(1) = 1
            judge(4) = BEYOND
            judge(-1) = BEYOND
            judge(3) = MISSING
            """);
        Script.says("Promise 38: of 6 GUESTS and a sheet of 40 numbers", """
            text 'guest 0;guest 0;guest 0;guest 0;guest 0;guest 0' = 6
            sheet(0, 8, 40) = 40
            judge(0) = 7
            sheet(0, 8, 7) = 7
            judge(0) = 7
            sheet(0, 8, 6) = 6
            judge(0) = 0
            write(0, 5, 1)
            judge(0) = 6
            """);
    }

    // ---- images

    private static void image() {
        Script.says("Promise 39: All but THE TAPE and SHEETS is kept: 1", """
            guest(50)
            tape 'guest'
            tell 0 8: 11
            image() = 1
            tape ' 7'
            write(0, 0, 12)
            sheet(1, 8, 3)
            undo() = 0
            count(5) = 7
            load(1) = 1
            load(0) = 1
            ofGuest(0, 0) = 12
            text() = 1
            ofGuest(1, 0) = 7
            undo() = 0
            count(2) = 1
            ofGuest(0, 0) = 50
            count(5) = 0
            """);
        Script.says("Promise 39: of a new inn, too", """
            image() = 1
            text 'pie 1 2;guest 3;meal 0 5 7' = 3
            go(9)
            seed(5)
            hold(0, 0)
            undo() = 0
            count(0) = 0
            count(1) = 0
            count(2) = 0
            count(6) = 1
            count(7) = 0
            listed(0) = 0
            of(0, 0) = BEYOND
            dish(0, 0, 0) = 0
            of(0, 0) = 0
            of(0, 3) = 10
            """);
    }

    private static void imageKeepsAll() {
        Script.says("Promise 39: DISHES, GUESTS, THE LIST, DAY, z, SPOTS are kept", """
            text 'pie 1 2 price 3 served 4 off;guest 5 for 6;meal 1 2 3;meal 5 4 3' = 4
            seat(0, 2, 7)
            seat(0, 3, 8)
            seat(0, 4, 9)
            hold(9, 0)
            seed(10)
            go(11)
            image() = 1
            change(0, 0, 0)
            change(0, 1, 0)
            change(0, 2, 0)
            change(0, 3, 0)
            change(0, 4, 0)
            change(0, 5, 0)
            seat(0, 0, 0)
            seat(0, 1, 0)
            seat(0, 2, 0)
            seat(0, 3, 0)
            seat(0, 4, 0)
            list(1, 0, 0)
            list(5, 0, 0)
            hold(9, -1)
            hold(0, 0)
            coach(1)
            undo() = 11
            of(0, 0) = 1
            of(0, 1) = 1
            of(0, 2) = 2
            of(0, 3) = 3
            of(0, 4) = 4
            of(0, 5) = 1
            ofGuest(0, 0) = 5
            ofGuest(0, 1) = 6
            ofGuest(0, 2) = 7
            ofGuest(0, 3) = 8
            ofGuest(0, 4) = 9
            listed(1) = 23
            listed(5) = 43
            as(9, 1) = 0
            as(0, 0) = MISSING
            count(6) = 10
            count(0) = 11
            """);
    }

    private static void undo() {
        Script.says("Promise 40: what was kept latest (which stays): DAY. NONE: nothing is kept", """
            undo() = NONE
            go(1)
            image() = 1
            go(2)
            image() = 1
            go(60)
            undo() = 3
            go(5)
            undo() = 3
            undo() = 3
            count(0) = 3
            tear() = 1
            undo() = NONE
            count(0) = 3
            """);
    }

    private static void tear() {
        Script.says("Promise 41: Nothing is kept: 1 if something was, else 0", """
            tear() = 0
            image() = 1
            image() = 1
            tear() = 1
            tear() = 0
            undo() = NONE
            image() = 1
            undo() = 0
            tear() = 1
            """);
    }

    private static void count() {
        Script.says("Promise 42: what 0 to 7. BEYOND: another what", """
            text 'mutton 1 2 served 9999;mutton 3 4 served 2;guest 0;guest 0;guest 0' = 5
            go(2)
            seat(2, 2, 99999)
            tape 'abc'
            seed(-1000003)
            hold(4, 1)
            count(0) = 2
            count(1) = 2
            count(2) = 3
            count(3) = 100019
            count(4) = 10001
            count(5) = 3
            count(6) = -1000003
            count(7) = 1
            status(-1) = 0
            count(-1) = BEYOND
            count(8) = BEYOND
            """);
    }

    private static void status() {
        Script.says("Promise 43: which -1: all, 0 to 6: BEYOND to SIZE. BEYOND (counted from then on): another one", """
            status(-1) = 0
            status(0) = 0
            status(6) = 0
            status(7) = BEYOND
            status(0) = 1
            status(-1) = 1
            status(-2) = BEYOND
            status(0) = 2
            undo() = NONE
            status(3) = 1
            load(0) = MISSING
            status(5) = 1
            sheet(0, 8, -1) = SIZE
            status(6) = 1
            text 'pie 1 2 off;guest 0;guest 0;guest 0;guest 0;guest 0;guest 0' = 7
            guest(0) = FULL
            status(1) = 1
            hold(0, 0)
            as(0, 2) = KIND
            status(2) = 1
            eat(0, 0) = STATE
            status(4) = 1
            status(0) = 2
            status(-1) = 8
            """);
        Script.says("Promise 43: (undo() takes none back)", """
            guest(-1) = BEYOND
            image() = 1
            guest(-1) = BEYOND
            undo() = 0
            status(0) = 2
            tear() = 1
            undo() = NONE
            status(0) = 2
            status(3) = 1
            status(-1) = 3
            """);
        Script.says("Promise 43: a FAULT is no finding, nor is an answer below 0", """
            text 'soup' = -1
            now(7) = -1
            seed(-1000001) = 1
            seed(1) = -1000001
            status(-1) = 0
            """);
    }
}
