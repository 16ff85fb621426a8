/**
 * The greatest and the least int as each argument, the numbers next to the last good ones, and several
 * refusals at once: the first of the document's order is the one that is thrown.
 */
public final class RefusalsTest {
    private static final Runs RUNS = new Runs();
    /** Robots 0 on piece 0 and 1 on piece 2, grants 1 (robot 0, piece 1) and 2 (robot 1, piece 2), pieces 0 .. 3. */
    private static final String SOME = """
        robot 0 off = 0
        robot 2 on = 1
        ask 0 1 0 100 1 = 1
        ask 1 2 0 100 1 = 2
        await 0 2 = 0
        """;
    /**
     * Robot 0 stands on piece 0 and with its tail on piece 1, waits for piece 3 and has not reported of late;
     * robot 2 is halted, piece 7 closed; of grants 1 to 6 the first is used, the others freed, taken, over or live.
     */
    private static final String MUCH = """
        pass 3 = 0
        robot 1 on = 0; robot 3 off = 1; robot 5 on = 2
        ask 0 0 3 90 5 = 1; ask 1 2 10 60 2 = 2; ask 2 2 60 80 7 = 3; ask 0 2 10 11 3 = 4
        step 0 0 = 1
        ask 1 4 3 9 1 = 5
        ask 0 1 3 90 4 = 6
        await 0 3 = 0; await 1 5 = 0
        zone 7 on = 0
        halt 2 on = 1
        pass 10 = 1
        grant 1 5 = 1; grant 2 5 = 3; grant 3 5 = 2; grant 4 5 = 0; grant 5 5 = 4; grant 6 5 = 0
        told 0 1 = 1; told 0 2 = 3; told 0 5 = 0; told 0 6 = 3
        """;
    private static final String REFUSED_WHERE_MUCH_IS = """
        link 0 0 on ! IAE; link 7 7 off ! IAE; link 16 0 on ! NSE; link 0 -1 off ! NSE
        robot 0 off ! ISE; robot 1 off ! ISE; robot 7 on ! ISE; robot 16 on ! NSE
        ask 6 2 10 20 9 ! NSE; ask 0 16 10 20 9 ! NSE; ask 0 2 9 20 9 ! IAE; ask 0 2 20 20 9 ! IAE
        ask 0 2 10 111 9 ! IAE; ask 0 2 10 20 10 ! IAE; ask 2 2 10 20 9 ! ISE
        free 1 ! ISE; free 2 ! ISE; free 3 ! ISE; free 5 ! ISE; free 0 ! NSE; free 61 ! NSE
        meets 0 4 ! NSE; meets 4 61 ! NSE
        step 0 0 ! IAE; step 0 2 ! IAE; step 2 4 ! ISE; step 6 1 ! NSE; step 0 16 ! NSE
        pull 1 ! ISE; pull 2 ! ISE; pull 6 ! NSE
        await 0 0 ! ISE; await 0 1 ! ISE; await 0 6 ! ISE; await 6 0 ! NSE; await 0 16 ! NSE
        next 16 ! NSE
        zone 7 on ! ISE; zone 6 off ! ISE; zone 0 on ! ISE; zone 1 on ! ISE; zone 3 off ! ISE; zone 16 on ! NSE
        halt 0 off ! ISE; halt 2 on ! ISE; halt 6 on ! NSE
        report 6 ! NSE
        pass 9 ! IAE; pass 10001 ! IAE
        holder 16 10 ! NSE; holder 0 9 ! IAE; holder 2 9 ! IAE
        told 6 0 ! NSE; told 0 7 ! IAE; told 0 -1 ! IAE
        grant 61 0 ! NSE; grant 4 6 ! IAE; grant 4 -1 ! IAE
        """;
    private static final String[] NO_PIECES = {"4", "15", "16", "31", "32", "-1", "least", "greatest"};
    private static final String[] NO_ROBOTS = {"2", "5", "6", "7", "-1", "least", "greatest"};
    private static final String[] NO_GRANTS = {"0", "3", "60", "61", "62", "-1", "least", "greatest"};

    public static void main(String[] args) {
        noSuchPieces();
        noSuchRobots();
        noSuchGrants();
        numbersOutsideTheirRanges();
        asksOutsideTheirRanges();
        wrapAround();
        noSuchThingFirst();
        outsideItsRangeBeforeHowItIsNow();
        howItIsNowBeforeNoRoom();
        allAtOnce();
        nothingChangedWhereMuchIsThere();
        nothingChangedWhereAllIsFull();
        RUNS.end();
    }

    private static String each(String[] numbers, String... lines) {
        StringBuilder all = new StringBuilder();
        for (String number : numbers) {
            for (String line : lines) {
                all.append(line.replace("#", number)).append('\n');
            }
        }
        return all.toString();
    }

    private static void noSuchPieces() {
        RUNS.run("NoSuchElementException: a piece that there is not", Runs.row(4), SOME, each(NO_PIECES,
            "link # 0 on ! NSE", "link 0 # off ! NSE", "link # # on ! NSE", "robot # on ! NSE", "ask 0 # 0 9 1 ! NSE",
            "step 0 # ! NSE", "await 0 # ! NSE", "next # ! NSE", "zone # on ! NSE", "zone # off ! NSE", "holder # 0 ! NSE"));
    }

    private static void noSuchRobots() {
        RUNS.run("NoSuchElementException: a robot that there is not", Runs.row(4), SOME, each(NO_ROBOTS,
            "ask # 1 0 9 1 ! NSE", "step # 1 ! NSE", "pull # ! NSE", "await # 2 ! NSE", "halt # on ! NSE",
            "halt # off ! NSE", "report # ! NSE", "told # 0 ! NSE"));
    }

    private static void noSuchGrants() {
        RUNS.run("NoSuchElementException: a grant that there is not", Runs.row(4), SOME, each(NO_GRANTS,
            "free # ! NSE", "meets # 1 ! NSE", "meets 1 # ! NSE", "meets # # ! NSE", "grant # 0 ! NSE"));
    }

    private static void numbersOutsideTheirRanges() {
        RUNS.run("IllegalArgumentException: another number outside its range", Runs.row(4), SOME,
            each(new String[] {"7", "8", "-1", "least", "greatest"}, "told 0 # ! IAE", "told 1 # ! IAE", "count # = -1"),
            each(new String[] {"6", "7", "-1", "least", "greatest"}, "grant 1 # ! IAE", "grant 2 # ! IAE"),
            each(new String[] {"10001", "-1", "least", "greatest"}, "pass # ! IAE"),
            each(new String[] {"-1", "-10000", "least"}, "holder 0 # ! IAE", "holder 3 # ! IAE"),
            "holder 0 greatest = 0; holder 3 greatest = -1; pass 9 = 0",
            each(new String[] {"8", "0", "10001", "-1", "least", "greatest"}, "pass # ! IAE"),
            each(new String[] {"8", "0", "-1", "least"}, "holder 0 # ! IAE", "holder 3 # ! IAE"));
    }

    private static void asksOutsideTheirRanges() {
        RUNS.run("IllegalArgumentException: another number outside its range, ask", Runs.row(4), SOME, "pass 9 = 0",
            each(new String[] {"8", "0", "-1", "least"}, "ask 0 1 # 20 1 ! IAE", "ask 0 1 # 9 1 ! IAE"),
            each(new String[] {"20", "21", "109", "110", "10000", "greatest"}, "ask 0 1 # 20 1 ! IAE"),
            each(new String[] {"110", "10001", "greatest", "8", "9", "0", "-1", "least"}, "ask 0 1 9 # 1 ! IAE"),
            each(new String[] {"0", "10", "-1", "least", "greatest"}, "ask 0 1 9 20 # ! IAE"),
            each(new String[] {"least", "greatest"}, "ask 0 1 # # 1 ! IAE", "ask 0 1 # # # ! IAE"),
            "ask 0 1 9 109 1 = 3; ask 0 1 108 109 9 = 4");
    }

    /** Numbers whose sum or difference with a time leaves the ints. */
    private static void wrapAround() {
        RUNS.run("the greatest and the least int do not wrap around", Runs.row(4), SOME, """
            pass 10000 = 2
            report 0 = true
            ask 0 1 least greatest 1 ! IAE
            ask 0 1 greatest least 1 ! IAE
            ask 0 1 10000 least 1 ! IAE
            ask 0 1 10000 greatest 1 ! IAE
            ask 0 1 10000 -2147483549 1 ! IAE
            ask 0 1 10000 2147483547 1 ! IAE
            ask 0 1 -2147483647 10001 1 ! IAE
            ask 0 1 2147483646 greatest 1 ! IAE
            ask 0 1 least -2147483647 1 ! IAE
            pass least ! IAE
            pass greatest ! IAE
            holder 1 least ! IAE
            holder 1 greatest = -1
            link 0 32 on ! NSE
            link 32 0 on ! NSE
            link -32 1 on ! NSE
            link -31 0 off ! NSE
            step 0 33 ! NSE
            step 0 -31 ! NSE
            ask 0 1 10000 10100 9 = 3
            """);
    }

    private static void noSuchThingFirst() {
        RUNS.run("the first that holds: NoSuchElementException before IllegalArgumentException", Runs.row(4), SOME, """
            link 4 4 on ! NSE
            link -1 -1 off ! NSE
            ask 2 1 -1 9 1 ! NSE
            ask 0 4 -1 9 1 ! NSE
            ask 2 1 9 9 1 ! NSE
            ask 0 4 9 9 1 ! NSE
            ask 2 1 0 101 1 ! NSE
            ask 0 4 0 101 1 ! NSE
            ask 2 1 0 9 0 ! NSE
            ask 0 4 0 9 10 ! NSE
            ask 2 4 -1 -1 10 ! NSE
            step 2 3 ! NSE
            step 0 4 ! NSE
            step 2 4 ! NSE
            holder 4 -1 ! NSE
            holder -1 -1 ! NSE
            told 2 7 ! NSE
            told -1 -1 ! NSE
            grant 3 6 ! NSE
            grant 0 -1 ! NSE
            """);
        RUNS.run("the first that holds: NoSuchElementException before IllegalStateException", Runs.row(4), SOME, """
            await 2 1 ! NSE
            await 0 4 ! NSE
            halt 0 on = 1
            ask 0 4 0 9 1 ! NSE
            step 0 4 ! NSE
            halt 0 off = 0
            pass 31 = 0
            ask 0 4 31 39 1 ! NSE
            step 0 4 ! NSE
            """);
        RUNS.run("the first that holds: NoSuchElementException before UnsupportedOperationException", Runs.row(7),
            Runs.robots(6), "robot 7 off ! NSE; robot -1 on ! NSE; robot greatest on ! NSE",
            Runs.asks(1, 60, "ask 0 6 0 9 1"), """
            ask 6 6 0 9 1 ! NSE
            ask 0 7 0 9 1 ! NSE
            ask 0 6 0 9 1 ! UOE
            robot 6 off ! UOE
            """);
    }

    private static void outsideItsRangeBeforeHowItIsNow() {
        String asks = each(new String[] {"0", "1", "2", "3"}, "ask 0 # 39 49 1 ! IAE", "ask 0 # 40 40 1 ! IAE",
            "ask 0 # 40 141 1 ! IAE", "ask 0 # 40 49 0 ! IAE", "ask 0 # 40 49 10 ! IAE", "ask 0 # 40 140 9 ! ISE");
        RUNS.run("the first that holds: IllegalArgumentException before IllegalStateException, a silent one",
            Runs.row(4), SOME, "pass 40 = 0", asks, "step 0 3 ! IAE; step 0 0 ! IAE; step 0 1 ! ISE");
        RUNS.run("the first that holds: IllegalArgumentException before IllegalStateException, a halted one",
            Runs.row(4), SOME, "pass 40 = 0; report 0 = true; halt 0 on = 1", asks,
            "step 0 3 ! IAE; step 0 0 ! IAE; step 0 1 ! ISE");
        RUNS.run("the first that holds: IllegalArgumentException before UnsupportedOperationException", Runs.row(4), SOME,
            Runs.asks(3, 60, "ask 0 1 0 9 1"), """
            ask 0 1 -1 9 1 ! IAE
            ask 0 1 9 9 1 ! IAE
            ask 0 1 0 101 1 ! IAE
            ask 0 1 0 9 0 ! IAE
            ask 0 1 0 9 10 ! IAE
            ask 0 1 0 9 9 ! UOE
            """);
    }

    private static void howItIsNowBeforeNoRoom() {
        RUNS.run("the first that holds: IllegalStateException before UnsupportedOperationException, robots", Runs.row(16),
            Runs.robots(6), """
            zone 15 on = 0
            robot 0 off ! ISE
            robot 5 off ! ISE
            robot 15 off ! ISE
            robot 14 off ! UOE
            zone 15 off = 0
            robot 15 off ! UOE
            """);
        RUNS.run("the first that holds: IllegalStateException before UnsupportedOperationException, grants", Runs.row(4),
            SOME, Runs.asks(3, 60, "ask 0 1 0 100 1"), """
            ask 1 3 0 9 1 ! UOE
            halt 1 on = 1
            ask 1 3 0 9 1 ! ISE
            halt 1 off = 0
            ask 1 3 0 9 1 ! UOE
            pass 30 = 0
            ask 1 3 30 39 1 ! UOE
            pass 31 = 0
            ask 1 3 31 39 1 ! ISE
            ask 0 1 31 39 1 ! ISE
            report 1 = true
            ask 1 3 31 39 1 ! UOE
            """);
    }

    private static void allAtOnce() {
        RUNS.run("the first that holds, all four at once", Runs.row(4), SOME, Runs.asks(3, 60, "ask 0 1 0 100 1"), """
            halt 0 on = 59
            pass 31 = 0
            ask 0 4 30 39 0 ! NSE
            ask 2 1 30 39 0 ! NSE
            ask 0 1 30 39 0 ! IAE
            ask 0 1 31 39 1 ! ISE
            halt 0 off = 0
            ask 0 1 31 39 1 ! ISE
            report 0 = true
            ask 0 1 31 39 1 ! UOE
            told 0 6 = 31
            """);
    }

    private static void nothingChangedWhereMuchIsThere() {
        RUNS.run("What is refused changes nothing", Runs.row(8), MUCH, REFUSED_WHERE_MUCH_IS, """
            step 0 1 = 6
            told 0 1 = 0
            """);
        RUNS.run("What is refused changes nothing, a silent robot", Runs.row(8), MUCH, """
            pass 33 = 1
            told 0 5 = 0
            pass 34 = 0
            told 0 5 = 1
            ask 0 2 34 40 1 ! ISE
            step 0 1 ! ISE
            told 0 5 = 1
            pull 0 = 1
            told 0 5 = 0
            """);
    }

    private static void nothingChangedWhereAllIsFull() {
        RUNS.run("What is refused changes nothing, all places taken", Runs.row(16), MUCH, """
            robot 9 on = 3; robot 11 off = 4; robot 13 on = 5
            """, Runs.asks(7, 60, "ask 3 10 10 90 1"), REFUSED_WHERE_MUCH_IS, """
            piece ! UOE
            robot 15 on ! UOE
            ask 0 2 10 20 9 ! UOE
            ask 0 7 10 20 9 ! UOE
            ask 0 3 10 20 9 ! UOE
            step 0 1 = 6
            told 0 1 = 0
            """);
    }
}
