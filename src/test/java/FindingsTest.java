/**
 * Terms, FINDINGS: each refused call with the finding that it answers, the order in which findings are asked, and
 * (by Script, behind every line that answers a finding) that nothing but status() changes.
 */
public final class FindingsTest {
    /** Five dishes, three guests, something in every corner: days, spots, sheets, an image, a tape. */
    private static final String RICH = """
        text 'dish 1 2;pie 3 4 price 7;joint 5 6 served 3;peas 7 8 off;mutton 9 10'
        text 'guest 20 for 1;guest 55 for 6;guest 90;meal 1 1 2;meal 2 2 4;meal 3 0 3;meal 4 5 7;meal 5 0 1'
        go(4)
        hold(0, 4)
        hold(9, 2)
        tell 0 8: 1 2 3
        tell 1 16: 11 12 13 14
        tell 3 32: 21 22
        image()
        seat(0, 0, 33)
        eat(1, 0)
        hold(5, 1)
        list(0, 2, 2)
        seed(99)
        tape 'guest 7 for 3;dish 1 1'
        """;

    /** Eight dishes, six guests, 120 bytes, sheets of 40 numbers, ten spots that hold something. */
    private static final String FULL = """
        text 'dish 0 1;pie 1 2;roast 2 3;joint 3 4;trifle 4 5;mutton 5 6;peas 6 7;dish 7 8'
        text 'guest 0 for 1;guest 20 for 2;guest 40 for 3;guest 60 for 4;guest 80 for 5;guest 99 for 6'
        sheet(0, 8, 40)
        sheet(1, 16, 40)
        sheet(2, 32, 40)
        sheet(3, 32, 40)
        write(0, 39, 7)
        write(3, 39, 8)
        hold(0, 0)
        hold(1, 1)
        hold(2, 2)
        hold(3, 3)
        hold(4, 4)
        hold(5, 5)
        hold(6, 6)
        hold(7, 7)
        hold(8, 0)
        hold(9, 1)
        image()
        tape 'meal 0 0 0;meal 0 0 0;meal 0 0 0;meal 0 0 0;meal 0 0 0;meal 0 0 0;'
        tape 'meal 0 0 0;meal 0 0 0;meal 0 0 0;meal 0 0 0;meal 1 2 3'
        """;

    public static void main(String[] args) {
        numbers();
        innBeyond();
        factsBeyond();
        daysBeyond();
        aheadBeyond();
        whichBeyond();
        toldBeyond();
        coachesBeyond();
        spotsBeyond();
        sheetsBeyond();
        imagesBeyond();
        emptyInn();
        fullInn();
        orderOfFullAndState();
        orderOfNone();
        orderAtSheets();
        orderAtSpots();
        Script.end();
    }

    private static void numbers() {
        Script.says("LOW is -1000001; LOW BEYOND, LOW - 1 FULL, LOW - 2 KIND, LOW - 3 NONE, LOW - 4 STATE, "
            + "LOW - 5 MISSING, LOW - 6 SIZE", RICH, """
            guest(100) = -1000001
            as(0, 1) = -1000003
            when(0, 11) = -1000004
            eat(0, 3) = -1000005
            load(2) = -1000006
            sheet(0, 8, -1) = -1000007
            """);
        Script.says("LOW - 1 FULL", FULL, "guest(0) = -1000002");
        Script.due("(in longs, too)", "odds(0, 0, 0, 0)", new ForkInn().odds(0, 0, 0, 0), -1000001L);
    }

    private static void innBeyond() {
        Script.says("list: place i (0 to 5), a GUEST (0 to 5) and a DISH (0 to 7). BEYOND", RICH, """
            list(-1, 0, 0) = BEYOND
            list(6, 0, 0) = BEYOND
            list(0, -1, 0) = BEYOND
            list(0, 6, 0) = BEYOND
            list(0, 0, -1) = BEYOND
            list(0, 0, 8) = BEYOND
            list(MIN, 0, 0) = BEYOND
            list(0, MAX, 0) = BEYOND
            list(0, 0, MIN) = BEYOND
            """);
        Script.says("listed: a place of THE LIST. BEYOND", RICH, """
            listed(-1) = BEYOND
            listed(6) = BEYOND
            listed(MIN) = BEYOND
            listed(MAX) = BEYOND
            """);
        Script.says("dish: a KIND, a LEFT and a RIGHT TOWN. BEYOND", RICH, """
            dish(-1, 0, 0) = BEYOND
            dish(7, 0, 0) = BEYOND
            dish(0, -1, 0) = BEYOND
            dish(0, 12, 0) = BEYOND
            dish(0, 0, -1) = BEYOND
            dish(0, 0, 12) = BEYOND
            dish(MAX, MIN, MAX) = BEYOND
            """);
        Script.says("guest: a BENT. BEYOND", RICH, """
            guest(-1) = BEYOND
            guest(100) = BEYOND
            guest(MIN) = BEYOND
            guest(MAX) = BEYOND
            """);
        Script.says("would: a GUEST, a DISH, what 0 to 3. BEYOND", RICH, """
            would(-1, 0, 0) = BEYOND
            would(3, 0, 0) = BEYOND
            would(0, -1, 0) = BEYOND
            would(0, 5, 0) = BEYOND
            would(0, 0, -1) = BEYOND
            would(0, 0, 4) = BEYOND
            would(MAX, MAX, MAX) = BEYOND
            """);
        Script.says("eat: a GUEST, a DISH. BEYOND. STATE: the DISH is OFF", RICH, """
            eat(-1, 0) = BEYOND
            eat(3, 0) = BEYOND
            eat(0, -1) = BEYOND
            eat(0, 5) = BEYOND
            eat(0, 3) = STATE
            eat(2, 3) = STATE
            """);
    }

    private static void factsBeyond() {
        Script.says("of: a DISH, what 0 to 5. BEYOND", RICH, """
            of(-1, 0) = BEYOND
            of(5, 0) = BEYOND
            of(0, -1) = BEYOND
            of(0, 6) = BEYOND
            of(MIN, MAX) = BEYOND
            """);
        Script.says("change: a DISH, what 0 to 5, v as the fact is bound. BEYOND", RICH, """
            change(-1, 0, 0) = BEYOND
            change(5, 0, 0) = BEYOND
            change(0, -1, 0) = BEYOND
            change(0, 6, 0) = BEYOND
            change(0, 0, -1) = BEYOND
            change(0, 0, 7) = BEYOND
            change(0, 1, -1) = BEYOND
            change(0, 1, 12) = BEYOND
            change(0, 2, -1) = BEYOND
            change(0, 2, 12) = BEYOND
            change(0, 3, -1) = BEYOND
            change(0, 3, 100) = BEYOND
            change(0, 4, -1) = BEYOND
            change(0, 4, 10000) = BEYOND
            change(0, 5, -1) = BEYOND
            change(0, 5, 2) = BEYOND
            change(0, 4, MIN) = BEYOND
            change(0, 4, MAX) = BEYOND
            """);
        Script.says("ofGuest: a GUEST, what 0 to 4. BEYOND", RICH, """
            ofGuest(-1, 0) = BEYOND
            ofGuest(3, 0) = BEYOND
            ofGuest(0, -1) = BEYOND
            ofGuest(0, 5) = BEYOND
            ofGuest(MAX, MIN) = BEYOND
            """);
        Script.says("seat: a GUEST, what 0 to 4, v as the fact is bound. BEYOND", RICH, """
            seat(-1, 0, 0) = BEYOND
            seat(3, 0, 0) = BEYOND
            seat(0, -1, 0) = BEYOND
            seat(0, 5, 0) = BEYOND
            seat(0, 0, -1) = BEYOND
            seat(0, 0, 100) = BEYOND
            seat(0, 1, -1) = BEYOND
            seat(0, 1, 12) = BEYOND
            seat(0, 2, -1) = BEYOND
            seat(0, 2, 100000) = BEYOND
            seat(0, 3, -1) = BEYOND
            seat(0, 3, 4096) = BEYOND
            seat(0, 4, -1) = BEYOND
            seat(0, 4, 10000) = BEYOND
            seat(0, 2, MIN) = BEYOND
            seat(0, 2, MAX) = BEYOND
            """);
    }

    private static void daysBeyond() {
        Script.says("go: n DAYS (1 to 60). BEYOND", RICH, """
            go(0) = BEYOND
            go(61) = BEYOND
            go(-1) = BEYOND
            go(MIN) = BEYOND
            go(MAX) = BEYOND
            """);
        Script.says("go: STATE: DAY would be above 99999", RICH, """
            day 99940
            go(60) = STATE
            day 99999
            go(1) = STATE
            go(60) = STATE
            """);
        Script.says("now: what 0 to 7. BEYOND", RICH, """
            now(-1) = BEYOND
            now(8) = BEYOND
            now(MIN) = BEYOND
            now(MAX) = BEYOND
            """);
    }

    private static void aheadBeyond() {
        Script.says("ahead: a GUEST, what 0 to 4, n (0 to 100) DAYS. BEYOND", RICH, """
            ahead(-1, 0, 0) = BEYOND
            ahead(3, 0, 0) = BEYOND
            ahead(0, -1, 0) = BEYOND
            ahead(0, 5, 0) = BEYOND
            ahead(0, 0, -1) = BEYOND
            ahead(0, 0, 101) = BEYOND
            ahead(0, 0, MAX) = BEYOND
            """);
        Script.says("served: a DISH, n (0 to 100) DAYS. BEYOND", RICH, """
            served(-1, 0) = BEYOND
            served(5, 0) = BEYOND
            served(0, -1) = BEYOND
            served(0, 101) = BEYOND
            served(0, MAX) = BEYOND
            """);
        Script.says("when: a GUEST, a TOWN. BEYOND. NONE", RICH, """
            when(-1, 0) = BEYOND
            when(3, 0) = BEYOND
            when(0, -1) = BEYOND
            when(0, 12) = BEYOND
            when(0, 11) = NONE
            """);
        Script.says("owes: a GUEST, v (0 to 99999). BEYOND. NONE", RICH, """
            owes(-1, 0) = BEYOND
            owes(3, 0) = BEYOND
            owes(0, -1) = BEYOND
            owes(0, 100000) = BEYOND
            owes(0, MAX) = BEYOND
            owes(0, 99999) = NONE
            """);
        Script.says("part: BEYOND: also one and the same", RICH, """
            part(-1, 0) = BEYOND
            part(3, 0) = BEYOND
            part(0, -1) = BEYOND
            part(0, 3) = BEYOND
            part(0, 0) = BEYOND
            part(2, 2) = BEYOND
            part(3, 3) = BEYOND
            part(-1, -1) = BEYOND
            """);
        Script.says("part: NONE", RICH, """
            guest(1)
            guest(1)
            part(3, 4) = NONE
            """);
    }

    private static void whichBeyond() {
        Script.says("dishFor: place i of THE LIST, n (0 to 60) DAYS. BEYOND", RICH, """
            dishFor(-1, 0) = BEYOND
            dishFor(6, 0) = BEYOND
            dishFor(0, -1) = BEYOND
            dishFor(0, 61) = BEYOND
            """);
        Script.says("kindFor: a DISH, n (0 to 60) DAYS. BEYOND", RICH, """
            kindFor(-1, 0) = BEYOND
            kindFor(5, 0) = BEYOND
            kindFor(0, -1) = BEYOND
            kindFor(0, 61) = BEYOND
            """);
        Script.says("bentFor: a GUEST, a TOWN, n (0 to 60) DAYS. BEYOND. NONE", RICH, """
            bentFor(-1, 0, 0) = BEYOND
            bentFor(3, 0, 0) = BEYOND
            bentFor(0, -1, 0) = BEYOND
            bentFor(0, 12, 0) = BEYOND
            bentFor(0, 0, -1) = BEYOND
            bentFor(0, 0, 61) = BEYOND
            bentFor(0, 11, 60) = NONE
            """);
        Script.says("courses: a GUEST, a TOWN. BEYOND. NONE", RICH, """
            courses(-1, 0) = BEYOND
            courses(3, 0) = BEYOND
            courses(0, -1) = BEYOND
            courses(0, 12) = BEYOND
            courses(0, 11) = NONE
            courses(0, 8) = NONE
            """);
        Script.says("strike: a GUEST, a TOWN, n (0 to 20) DAYS. BEYOND. NONE", RICH, """
            strike(-1, 0, 0) = BEYOND
            strike(3, 0, 0) = BEYOND
            strike(0, -1, 0) = BEYOND
            strike(0, 12, 0) = BEYOND
            strike(0, 0, -1) = BEYOND
            strike(0, 0, 21) = BEYOND
            seat(0, 1, 11)
            strike(0, 11, 0) = NONE
            """);
    }

    private static void toldBeyond() {
        Script.says("fits: BEYOND: no such sheet. MISSING. BEYOND: no such GUEST", RICH, """
            fits(-1, 0) = BEYOND
            fits(4, 0) = BEYOND
            fits(2, 0) = MISSING
            fits(0, -1) = BEYOND
            fits(0, 3) = BEYOND
            """);
        Script.says("kinds: BEYOND: no such sheet. MISSING. BEYOND: no such DISH, GUEST", RICH, """
            kinds(-1, 0, 0) = BEYOND
            kinds(4, 0, 0) = BEYOND
            kinds(2, 0, 0) = MISSING
            kinds(0, -1, 0) = BEYOND
            kinds(0, 5, 0) = BEYOND
            kinds(0, 0, -1) = BEYOND
            kinds(0, 0, 3) = BEYOND
            """);
    }

    private static void coachesBeyond() {
        Script.says("coach: n times (1 to 20). BEYOND", RICH, """
            coach(0) = BEYOND
            coach(21) = BEYOND
            coach(-1) = BEYOND
            coach(MIN) = BEYOND
            coach(MAX) = BEYOND
            """);
        Script.says("coach: STATE: DAY would be above 99999", RICH, """
            day 99980
            coach(20) = STATE
            day 99999
            coach(1) = STATE
            """);
        Script.says("odds: a GUEST, a DISH, n (0 to 9), what 0, 1. BEYOND", RICH, """
            odds(-1, 0, 0, 0) = BEYOND
            odds(3, 0, 0, 0) = BEYOND
            odds(0, -1, 0, 0) = BEYOND
            odds(0, 5, 0, 0) = BEYOND
            odds(0, 0, -1, 0) = BEYOND
            odds(0, 0, 10, 0) = BEYOND
            odds(0, 0, 0, -1) = BEYOND
            odds(0, 0, 0, 2) = BEYOND
            """);
        Script.says("feed: BEYOND: n", RICH, """
            feed(65, 0) = BEYOND
            feed(65, 5) = BEYOND
            feed(65, -1) = BEYOND
            feed(65, MIN) = BEYOND
            feed(65, MAX) = BEYOND
            """);
    }

    private static void spotsBeyond() {
        Script.says("hold: a SPOT, a DISH or nothing (-1). BEYOND", RICH, """
            hold(-1, 0) = BEYOND
            hold(10, 0) = BEYOND
            hold(-1, -1) = BEYOND
            hold(10, -1) = BEYOND
            hold(0, -2) = BEYOND
            hold(0, 5) = BEYOND
            hold(0, MIN) = BEYOND
            """);
        Script.says("as: a kind (0 to 6). BEYOND. MISSING: it holds nothing. KIND", RICH, """
            as(-1, 0) = BEYOND
            as(10, 0) = BEYOND
            as(0, -1) = BEYOND
            as(0, 7) = BEYOND
            as(1, 0) = MISSING
            as(0, 1) = KIND
            as(9, 4) = KIND
            """);
    }

    private static void sheetsBeyond() {
        Script.says("sheet: BEYOND: no such sheet, other bits", RICH, """
            sheet(-1, 8, 0) = BEYOND
            sheet(4, 8, 0) = BEYOND
            sheet(0, -1, 0) = BEYOND
            sheet(0, 1, 0) = BEYOND
            sheet(0, 7, 0) = BEYOND
            sheet(0, 9, 0) = BEYOND
            sheet(0, 15, 0) = BEYOND
            sheet(0, 17, 0) = BEYOND
            sheet(0, 24, 0) = BEYOND
            sheet(0, 31, 0) = BEYOND
            sheet(0, 33, 0) = BEYOND
            sheet(0, 64, 0) = BEYOND
            sheet(0, -8, 0) = BEYOND
            """);
        Script.says("sheet: SIZE: n is below 0 (also with bits 0). BEYOND: n is above 40", RICH, """
            sheet(0, 8, -1) = SIZE
            sheet(0, 16, -1) = SIZE
            sheet(0, 32, MIN) = SIZE
            sheet(0, 0, -1) = SIZE
            sheet(2, 0, -1) = SIZE
            sheet(0, 8, 41) = BEYOND
            sheet(0, 16, 41) = BEYOND
            sheet(0, 32, MAX) = BEYOND
            sheet(0, 0, 41) = BEYOND
            """);
        Script.says("write: BEYOND: no such sheet. MISSING. BEYOND: no such number", RICH, """
            write(-1, 0, 1) = BEYOND
            write(4, 0, 1) = BEYOND
            write(2, 0, 1) = MISSING
            write(0, -1, 1) = BEYOND
            write(0, 3, 1) = BEYOND
            write(1, 4, 1) = BEYOND
            write(3, MAX, 1) = BEYOND
            write(3, MIN, 1) = BEYOND
            """);
        Script.says("copy: BEYOND: no such sheet (either). MISSING: one is. KIND: they are not of as many bits", RICH, """
            copy(-1, 0, 0, 0, 0) = BEYOND
            copy(4, 0, 0, 0, 0) = BEYOND
            copy(0, 0, -1, 0, 0) = BEYOND
            copy(0, 0, 4, 0, 0) = BEYOND
            copy(2, 0, 0, 0, 0) = MISSING
            copy(0, 0, 2, 0, 0) = MISSING
            copy(2, 0, 2, 0, 0) = MISSING
            copy(0, 0, 1, 0, 1) = KIND
            copy(1, 0, 3, 0, 1) = KIND
            copy(3, 0, 0, 0, 0) = KIND
            """);
        Script.says("copy: BEYOND: one has not so many, or from, to or n is below 0", RICH, """
            tell 2 8: 31 32 33 34 35
            copy(0, 0, 2, 0, 4) = BEYOND
            copy(2, 0, 0, 0, 4) = BEYOND
            copy(0, 1, 2, 0, 3) = BEYOND
            copy(2, 0, 0, 1, 3) = BEYOND
            copy(0, 3, 2, 0, 1) = BEYOND
            copy(2, 0, 0, 3, 1) = BEYOND
            copy(0, 4, 2, 0, 0) = BEYOND
            copy(2, 0, 0, 4, 0) = BEYOND
            copy(0, -1, 2, 0, 1) = BEYOND
            copy(0, 0, 2, -1, 1) = BEYOND
            copy(0, 0, 2, 0, -1) = BEYOND
            copy(0, 3, 2, 5, -1) = BEYOND
            copy(0, MAX, 2, 0, 1) = BEYOND
            copy(0, 0, 2, MAX, MAX) = BEYOND
            copy(0, 2, 2, 2, MAX) = BEYOND
            copy(0, MIN, 2, 0, MIN) = BEYOND
            """);
        Script.says("load, judge: BEYOND: no such sheet. MISSING", RICH, """
            load(-1) = BEYOND
            load(4) = BEYOND
            load(2) = MISSING
            judge(-1) = BEYOND
            judge(4) = BEYOND
            judge(2) = MISSING
            """);
    }

    private static void imagesBeyond() {
        Script.says("undo: NONE: nothing is kept", RICH, """
            tear()
            undo() = NONE
            """);
        Script.says("count: BEYOND: another what", RICH, """
            count(-1) = BEYOND
            count(8) = BEYOND
            count(MIN) = BEYOND
            count(MAX) = BEYOND
            """);
        Script.says("status: BEYOND (counted from then on): another one", RICH, """
            status(-2) = BEYOND
            status(7) = BEYOND
            status(MIN) = BEYOND
            status(MAX) = BEYOND
            status(-1000001) = BEYOND
            """);
    }

    private static void emptyInn() {
        Script.says("no DISHES, no GUESTS: what asks for one is BEYOND", """
            of(0, 0) = BEYOND
            change(0, 0, 0) = BEYOND
            ofGuest(0, 0) = BEYOND
            seat(0, 0, 0) = BEYOND
            would(0, 0, 0) = BEYOND
            eat(0, 0) = BEYOND
            ahead(0, 0, 0) = BEYOND
            served(0, 0) = BEYOND
            when(0, 0) = BEYOND
            owes(0, 0) = BEYOND
            part(0, 1) = BEYOND
            kindFor(0, 0) = BEYOND
            bentFor(0, 0, 0) = BEYOND
            courses(0, 0) = BEYOND
            strike(0, 0, 0) = BEYOND
            odds(0, 0, 0, 0) = BEYOND
            hold(0, 0) = BEYOND
            sheet(0, 8, 0) = 0
            fits(0, 0) = BEYOND
            kinds(0, 0, 0) = BEYOND
            status(-1) = 19
            status(0) = 19
            """);
        Script.says("a DISH, but no GUEST", """
            dish(0, 0, 0)
            would(0, 0, 0) = BEYOND
            eat(0, 0) = BEYOND
            odds(0, 0, 0, 0) = BEYOND
            sheet(0, 8, 0) = 0
            kinds(0, 0, 0) = BEYOND
            """);
        Script.says("a GUEST, but no DISH", """
            guest(0)
            would(0, 0, 0) = BEYOND
            eat(0, 0) = BEYOND
            odds(0, 0, 0, 0) = BEYOND
            part(0, 1) = BEYOND
            sheet(0, 8, 0) = 0
            kinds(0, 0, 0) = BEYOND
            """);
    }

    private static void fullInn() {
        Script.says("8 DISHES, 6 GUESTS: the last of them are there, the next aren't", FULL, """
            of(7, 2) = 8
            of(8, 2) = BEYOND
            change(8, 0, 0) = BEYOND
            ofGuest(5, 0) = 99
            ofGuest(6, 0) = BEYOND
            seat(6, 0, 0) = BEYOND
            would(5, 7, 3) = 8
            would(6, 7, 3) = BEYOND
            would(5, 8, 3) = BEYOND
            eat(6, 7) = BEYOND
            eat(5, 8) = BEYOND
            ahead(5, 0, 0) = 99
            ahead(6, 0, 0) = BEYOND
            served(7, 0) = 0
            served(8, 0) = BEYOND
            when(5, 6) = 0
            when(6, 6) = BEYOND
            owes(5, 0) = 0
            owes(6, 0) = BEYOND
            part(4, 5) = 0
            part(5, 6) = BEYOND
            part(6, 5) = BEYOND
            """);
        Script.says("8 DISHES, 6 GUESTS, in the other questions", FULL, """
            kindFor(7, 0) = 0
            kindFor(8, 0) = BEYOND
            bentFor(5, 6, 0) = 0
            bentFor(6, 6, 0) = BEYOND
            courses(5, 6) = 0
            courses(6, 6) = BEYOND
            strike(5, 7, 0) = 0
            strike(6, 7, 0) = BEYOND
            fits(0, 6) = BEYOND
            kinds(0, 8, 0) = BEYOND
            kinds(0, 0, 6) = BEYOND
            odds(5, 7, 0, 0) = 1
            odds(6, 7, 0, 0) = BEYOND
            odds(5, 8, 0, 0) = BEYOND
            hold(9, 7) = 1
            hold(9, 8) = BEYOND
            """);
        Script.says("dish: FULL. guest: FULL. feed: FULL", FULL, """
            dish(0, 0, 0) = FULL
            dish(6, 11, 11) = FULL
            guest(0) = FULL
            guest(99) = FULL
            feed(0, 1) = FULL
            feed(0, 4) = FULL
            """);
    }

    private static void orderOfFullAndState() {
        Script.says("dish: BEYOND. FULL. guest: BEYOND. FULL. feed: BEYOND: n. FULL", FULL, """
            dish(7, 0, 0) = BEYOND
            dish(-1, 0, 0) = BEYOND
            dish(0, 12, 0) = BEYOND
            dish(0, 0, 12) = BEYOND
            guest(-1) = BEYOND
            guest(100) = BEYOND
            feed(0, 0) = BEYOND
            feed(0, 5) = BEYOND
            """);
        Script.says("eat: BEYOND. STATE: the DISH is OFF", RICH, """
            eat(3, 3) = BEYOND
            eat(-1, 3) = BEYOND
            eat(0, 3) = STATE
            """);
        Script.says("go, coach: BEYOND. STATE: DAY would be above 99999", RICH, """
            day 99999
            go(0) = BEYOND
            go(61) = BEYOND
            go(MAX) = BEYOND
            go(1) = STATE
            coach(0) = BEYOND
            coach(21) = BEYOND
            coach(MAX) = BEYOND
            coach(1) = STATE
            """);
    }

    private static void orderOfNone() {
        Script.says("when, owes, part, bentFor, courses, strike: BEYOND. NONE", RICH, """
            when(3, 11) = BEYOND
            owes(3, 99999) = BEYOND
            part(1, 1) = BEYOND
            bentFor(3, 11, 0) = BEYOND
            bentFor(0, 11, 61) = BEYOND
            courses(3, 11) = BEYOND
            seat(0, 1, 11)
            strike(3, 11, 0) = BEYOND
            strike(0, 11, -1) = BEYOND
            """);
    }

    private static void orderAtSheets() {
        Script.says("fits, kinds: BEYOND: no such sheet. MISSING. BEYOND: no such DISH, GUEST", RICH, """
            fits(2, 3) = MISSING
            fits(2, -1) = MISSING
            fits(4, 3) = BEYOND
            kinds(2, 5, 0) = MISSING
            kinds(2, 0, 3) = MISSING
            kinds(2, -1, -1) = MISSING
            kinds(4, 5, 3) = BEYOND
            """);
        Script.says("sheet: BEYOND: no such sheet, other bits. SIZE: n is below 0", RICH, """
            sheet(4, 8, -1) = BEYOND
            sheet(-1, 0, -1) = BEYOND
            sheet(0, 7, -1) = BEYOND
            sheet(0, 64, -1) = BEYOND
            """);
        Script.says("write: MISSING. BEYOND: no such number", RICH, """
            write(2, -1, 0) = MISSING
            write(2, 40, 0) = MISSING
            write(4, -1, 0) = BEYOND
            """);
        Script.says("copy: BEYOND: no such sheet (either). MISSING", RICH, """
            copy(2, 0, 4, 0, 0) = BEYOND
            copy(2, 0, -1, 0, 0) = BEYOND
            copy(4, 0, 2, 0, 0) = BEYOND
            """);
        Script.says("copy: MISSING. KIND. BEYOND: one has not so many, or from, to or n is below 0", RICH, """
            copy(2, -1, 0, 0, 0) = MISSING
            copy(0, 0, 2, 0, 41) = MISSING
            copy(0, -1, 1, 0, 0) = KIND
            copy(0, 0, 1, -1, 0) = KIND
            copy(0, 0, 1, 0, -1) = KIND
            copy(0, 0, 1, 0, 41) = KIND
            """);
    }

    private static void orderAtSpots() {
        Script.says("as: BEYOND. MISSING. KIND", RICH, """
            as(1, -1) = BEYOND
            as(1, 7) = BEYOND
            as(10, 1) = BEYOND
            as(1, 1) = MISSING
            as(1, 6) = MISSING
            as(5, 7) = BEYOND
            as(5, 6) = KIND
            """);
    }
}
