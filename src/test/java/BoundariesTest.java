/** Each sentence of promises 1 to 19 that names a boundary has a run of its own; its words are the title. */
public final class BoundariesTest {
    private static final Runs RUNS = new Runs();

    public static void main(String[] args) {
        newObject();
        piece();
        link();
        robot();
        askFromAndTo();
        askNotGranted();
        askFirstBar();
        askTakes();
        askRefused();
        free();
        meets();
        stepAnswers();
        stepRefused();
        stepEndsWait();
        pull();
        await();
        next();
        zone();
        halt();
        report();
        pass();
        holder();
        told();
        grant();
        count();
        RUNS.end();
    }

    private static void newObject() {
        RUNS.run("promise 1: Nothing there; time 0", """
            count 0 = 0; count 1 = 0; count 2 = 0; count 3 = 0; count 4 = 0; count 5 = 0; count 6 = 0
            link 0 1 on ! NSE
            robot 0 off ! NSE
            ask 0 0 0 1 1 ! NSE
            free 1 ! NSE
            meets 1 1 ! NSE
            step 0 0 ! NSE
            pull 0 ! NSE
            await 0 0 ! NSE
            next 0 ! NSE
            zone 0 on ! NSE
            zone 0 off ! NSE
            halt 0 on ! NSE
            halt 0 off ! NSE
            report 0 ! NSE
            holder 0 0 ! NSE
            told 0 0 ! NSE
            grant 1 0 ! NSE
            count 7 = -1
            pass 0 = 0
            piece = 0
            """);
        RUNS.run("promise 1: Nothing there, pieces, but no robot or grant", Runs.row(2), """
            ask 0 0 0 1 1 ! NSE
            step 0 1 ! NSE
            pull 0 ! NSE
            await 0 0 ! NSE
            next 0 = -1
            holder 0 0 = -1
            holder 1 10000 = -1
            zone 0 on = 0
            robot 1 off = 0
            free 1 ! NSE
            meets 1 1 ! NSE
            grant 1 5 ! NSE
            """);
    }

    private static void piece() {
        RUNS.run("promise 2: UnsupportedOperationException", Runs.pieces(16), """
            piece ! UOE
            zone 15 on = 0
            piece ! UOE
            pass 10000 = 0
            piece ! UOE
            count 0 = 16
            """);
    }

    private static void link() {
        RUNS.run("promise 3: how many are linked with the first one", Runs.pieces(4), """
            link 0 1 off = 0
            link 0 1 on = 1
            link 0 1 on = 1
            link 2 0 on = 1
            link 0 2 on = 2
            link 0 3 on = 3
            link 3 2 on = 2
            link 0 3 off = 2
            link 0 3 off = 2
            link 3 0 off = 1
            link 1 0 off = 0
            link 0 2 off = 0
            link 3 2 off = 0
            """);
        RUNS.run("promise 3: IllegalArgumentException: the same", Runs.pieces(16), """
            link 0 0 on ! IAE
            link 0 0 off ! IAE
            link 15 15 on ! IAE
            link 15 15 off ! IAE
            link 16 16 on ! NSE
            link -1 -1 off ! NSE
            link 0 15 on = 1
            link 0 0 off ! IAE
            link 15 15 on ! IAE
            link 15 0 on = 1
            """);
        RUNS.run("promise 3: a link bears no robot, zone or grant", Runs.row(2), """
            robot 0 off = 0
            ask 0 1 0 9 1 = 1
            link 0 1 off = 0
            grant 1 5 = 0
            step 0 1 ! IAE
            link 1 0 on = 1
            step 0 1 = 1
            zone 0 on = 0
            link 0 1 off = 0
            link 0 1 on = 1
            """);
    }

    private static void robot() {
        RUNS.run("promise 4: IllegalStateException: one stands there, or it is closed", Runs.row(4), """
            robot 0 on = 0
            robot 0 off ! ISE
            zone 1 on = 0
            robot 1 off ! ISE
            zone 1 off = 0
            ask 0 1 0 9 1 = 1
            step 0 1 = 1
            robot 1 on ! ISE
            robot 0 on ! ISE
            pull 0 = 0
            robot 1 on ! ISE
            robot 0 on = 1
            """);
        RUNS.run("promise 4: UnsupportedOperationException", Runs.pieces(8), Runs.robots(5), """
            zone 7 on = 0
            robot 5 off = 5
            robot 6 off ! UOE
            robot 5 off ! ISE
            robot 7 off ! ISE
            robot 8 off ! NSE
            robot 6 off ! UOE
            """);
        RUNS.run("promise 4: another one's grant does not keep a robot away", Runs.row(2), """
            robot 0 off = 0
            ask 0 1 0 9 9 = 1
            robot 1 off = 1
            grant 1 5 = 0
            step 0 1 = -1
            """);
    }

    private static void askFromAndTo() {
        RUNS.run("promise 5: from a time (not before now)", Runs.row(2), """
            robot 0 off = 0
            ask 0 1 -1 9 1 ! IAE
            ask 0 1 0 9 1 = 1
            pass 7 = 0
            ask 0 1 6 9 1 ! IAE
            ask 0 1 0 9 1 ! IAE
            ask 0 1 7 9 1 = 2
            ask 0 1 8 9 1 = 3
            """);
        RUNS.run("promise 5: to a later one", Runs.row(2), """
            robot 0 off = 0
            pass 7 = 0
            ask 0 1 7 6 1 ! IAE
            ask 0 1 7 7 1 ! IAE
            ask 0 1 7 8 1 = 1
            ask 0 1 107 107 1 ! IAE
            ask 0 1 107 106 1 ! IAE
            """);
        RUNS.run("promise 5: (at most 100 behind now)", Runs.row(2), """
            robot 0 off = 0
            ask 0 1 0 101 1 ! IAE
            ask 0 1 0 100 1 = 1
            ask 0 1 99 100 1 = 2
            ask 0 1 99 101 1 ! IAE
            ask 0 1 100 101 1 ! IAE
            pass 1 = 0
            ask 0 1 100 101 1 = 3
            ask 0 1 1 102 1 ! IAE
            ask 0 1 101 102 1 ! IAE
            """);
        RUNS.run("promise 5: (at most 100 behind now), at the last times", Runs.row(2), """
            pass 9900 = 0
            robot 0 off = 0
            ask 0 1 9900 10000 1 = 1
            ask 0 1 9900 10001 1 ! IAE
            pass 10000 = 1
            report 0 = true
            ask 0 1 9999 10001 1 ! IAE
            ask 0 1 10000 10101 1 ! IAE
            ask 0 1 10000 10100 1 = 2
            ask 0 1 10099 10100 1 = 3
            grant 2 3 = 10100
            step 0 1 = 2
            """);
    }

    private static void askNotGranted() {
        RUNS.run("promise 5: 0 if the piece is closed", Runs.row(3), """
            robot 0 off = 0
            zone 1 on = 0
            ask 0 1 0 1 9 = 0
            ask 0 1 99 100 9 = 0
            count 2 = 0
            zone 1 off = 0
            ask 0 1 0 1 9 = 1
            """);
        RUNS.run("promise 5: 0 if another robot stands on it", Runs.row(4), """
            robot 0 on = 0
            robot 3 off = 1
            ask 1 0 99 100 9 = 0
            ask 0 0 0 100 1 = 1
            ask 0 1 0 9 1 = 2
            step 0 1 = 2
            ask 1 0 0 1 9 = 0
            ask 1 1 0 1 9 = 0
            ask 0 0 5 6 1 = 3
            ask 0 1 5 6 1 = 4
            pull 0 = 0
            ask 1 0 0 5 9 = -1
            ask 1 1 0 5 9 = 0
            count 2 = 4
            """);
        RUNS.run("promise 5: 0 .., else less the number of the first grant that bars it", Runs.row(3), """
            robot 0 off = 0
            robot 2 off = 1
            ask 0 1 0 9 5 = 1
            ask 1 1 0 9 5 = -1
            robot 1 off = 2
            ask 1 1 0 9 5 = 0
            ask 2 1 0 9 5 = -1
            """);
    }

    private static void askFirstBar() {
        RUNS.run("promise 5: less the number of the first grant that bars it", Runs.row(3), """
            robot 0 off = 0
            robot 2 off = 1
            ask 0 1 80 90 9 = 1
            ask 0 1 10 20 4 = 2
            ask 0 1 20 30 5 = 3
            ask 0 1 30 40 5 = 4
            ask 1 1 10 90 5 = -1
            ask 1 1 10 80 4 = -2
            ask 1 1 10 80 5 = -3
            ask 1 1 30 80 5 = -4
            ask 1 1 40 80 1 = 5
            free 3 = 3
            ask 1 1 10 80 5 = -4
            grant 2 5 = 0
            """);
        RUNS.run("promise 5: less the number of the first grant, the sixtieth", Runs.row(3), "robot 0 off = 0; robot 2 off = 1",
            Runs.asks(1, 58, "ask 0 0 0 9 1"), """
            ask 0 1 0 9 9 = 59
            ask 1 1 8 9 9 = -59
            free 59 = 58
            ask 1 1 8 9 9 = 60
            """);
    }

    private static void askTakes() {
        RUNS.run("each has a lesser priority", Runs.row(3), """
            robot 0 off = 0
            robot 2 off = 1
            ask 0 1 1 9 5 = 1
            ask 1 1 1 9 4 = -1
            ask 1 1 1 9 5 = -1
            grant 1 5 = 0
            ask 1 1 1 9 6 = 2
            grant 1 5 = 3
            ask 0 1 1 9 6 = -2
            ask 0 1 1 9 9 = 3
            ask 1 1 1 9 9 = -3
            grant 2 5 = 3; grant 3 5 = 0
            """);
        RUNS.run("has not begun (it begins behind now)", Runs.row(3), """
            robot 0 off = 0
            robot 2 off = 1
            ask 0 1 10 20 1 = 1
            ask 0 1 11 20 1 = 2
            pass 10 = 0
            ask 1 1 10 11 9 = -1
            ask 1 1 19 20 9 = -1
            free 1 = 1
            ask 1 1 19 20 9 = 3
            grant 2 5 = 3
            ask 1 1 10 19 1 = 4
            """);
        RUNS.run("of live grants of other robots for this piece", Runs.row(4), """
            robot 0 off = 0
            robot 3 off = 1
            ask 0 1 0 9 9 = 1
            ask 0 1 0 9 1 = 2
            ask 0 2 5 9 1 = 3
            ask 0 2 5 9 9 = 4
            ask 1 2 5 9 9 = -4
            free 4 = 3
            ask 1 2 5 9 2 = 5
            grant 1 5 = 0; grant 2 5 = 0; grant 3 5 = 3; grant 4 5 = 2
            """);
        RUNS.run("whose spans have a time in common", Runs.row(3), """
            robot 0 off = 0
            robot 2 off = 1
            ask 0 1 10 20 1 = 1
            ask 0 1 30 40 1 = 2
            ask 1 1 20 30 9 = 3
            ask 1 1 5 10 9 = 4
            ask 1 1 40 50 9 = 5
            grant 1 5 = 0; grant 2 5 = 0
            ask 1 1 19 20 9 = 6
            grant 1 5 = 3
            ask 1 1 29 31 9 = 7
            grant 2 5 = 3
            """);
        RUNS.run("these are taken then, none if one bars", Runs.row(3), """
            robot 0 off = 0
            robot 2 off = 1
            ask 0 1 10 20 1 = 1
            ask 0 1 20 30 9 = 2
            ask 0 1 30 40 1 = 3
            ask 1 1 10 40 9 = -2
            grant 1 5 = 0; grant 2 5 = 0; grant 3 5 = 0
            free 2 = 2
            ask 1 1 10 40 9 = 4
            grant 1 5 = 3; grant 2 5 = 2; grant 3 5 = 3
            count 3 = 1
            """);
        RUNS.run("these are taken then, of several robots", Runs.row(6), """
            robot 0 off = 0; robot 1 off = 1; robot 2 off = 2; robot 3 off = 3
            ask 0 5 1 9 1 = 1; ask 1 5 9 19 2 = 2; ask 2 5 19 29 3 = 3
            ask 3 5 1 29 3 = -3
            ask 3 5 1 29 4 = 4
            told 0 3 = 0; told 1 3 = 0; told 2 3 = 0; told 3 3 = 1
            """);
    }

    private static void askRefused() {
        RUNS.run("promise 5: IllegalStateException: the robot is halted or silent", Runs.row(2), """
            robot 0 off = 0
            halt 0 on = 0
            ask 0 1 0 9 1 ! ISE
            halt 0 off = 0
            pass 30 = 0
            ask 0 1 30 39 1 = 1
            pass 60 = 1
            ask 0 1 60 69 1 = 2
            pass 91 = 1
            ask 0 1 91 99 1 ! ISE
            ask 0 1 91 99 1 ! ISE
            report 0 = true
            ask 0 1 91 99 1 = 3
            """);
        RUNS.run("promise 5: there are sixty, whatever else would bar it", Runs.row(5), """
            robot 0 off = 0
            robot 2 off = 1
            zone 3 on = 0
            """, Runs.asks(1, 59, "ask 0 1 0 50 9"), """
            ask 1 1 0 50 1 = -1
            ask 0 3 0 50 1 = 0
            ask 0 2 0 50 1 = 0
            ask 1 4 1 50 1 = 60
            ask 1 1 0 50 1 ! UOE
            ask 0 3 0 50 1 ! UOE
            ask 0 2 0 50 1 ! UOE
            ask 0 4 1 50 9 ! UOE
            ask 0 1 0 50 9 ! UOE
            grant 60 5 = 0
            free 60 = 0
            ask 0 4 1 50 9 ! UOE
            pass 50 = 59
            report 0 = true
            ask 0 4 50 51 9 ! UOE
            """);
    }

    private static void free() {
        RUNS.run("promise 6: how many live ones its robot has left", Runs.row(3), """
            robot 0 off = 0
            robot 2 off = 1
            ask 0 1 0 9 1 = 1
            ask 0 0 0 9 1 = 2
            ask 0 0 0 2 1 = 3
            ask 1 2 0 9 1 = 4
            free 1 = 2
            pass 2 = 1
            free 2 = 0
            free 4 = 0
            count 3 = 0
            """);
        RUNS.run("promise 6: IllegalStateException: it is not live", Runs.row(4), """
            robot 0 off = 0
            robot 3 off = 1
            ask 0 1 0 9 1 = 1
            ask 0 1 0 9 1 = 2
            ask 0 2 1 9 1 = 3
            ask 0 1 0 1 1 = 4
            ask 1 2 1 9 2 = 5
            free 3 ! ISE
            step 0 1 = 1
            free 1 ! ISE
            free 2 = 1
            free 2 ! ISE
            free 4 = 0
            free 4 ! ISE
            zone 2 on = 1
            free 5 ! ISE
            zone 2 off = 0
            free 5 ! ISE
            ask 0 2 0 1 1 = 6
            pass 1 = 1
            free 6 ! ISE
            ask 0 2 1 2 1 = 7
            halt 0 on = 1
            free 7 ! ISE
            """);
        RUNS.run("promise 6: NoSuchElementException", Runs.row(2), "robot 0 off = 0; free 0 ! NSE; free 1 ! NSE",
            Runs.asks(1, 60, "ask 0 1 0 9 1"), """
            free 0 ! NSE
            free 61 ! NSE
            free -1 ! NSE
            free 60 = 59
            free 1 = 58
            """);
    }

    private static void meets() {
        RUNS.run("promise 7: have a time in common", Runs.row(3), """
            robot 0 off = 0
            ask 0 1 10 20 1 = 1
            ask 0 1 20 30 1 = 2
            ask 0 1 19 21 1 = 3
            ask 0 1 9 10 1 = 4
            ask 0 1 9 11 1 = 5
            ask 0 1 0 100 1 = 6
            ask 0 1 14 15 1 = 7
            meets 1 2 = false; meets 2 1 = false
            meets 1 3 = true; meets 3 1 = true; meets 2 3 = true
            meets 1 4 = false; meets 4 1 = false
            meets 1 5 = true; meets 5 1 = true; meets 4 5 = true
            meets 1 6 = true; meets 6 1 = true
            meets 1 7 = true; meets 7 1 = true; meets 2 7 = false
            meets 1 1 = true; meets 4 4 = true
            """);
        RUNS.run("promise 7: (live or not), for one piece", Runs.row(4), """
            robot 0 off = 0
            robot 3 off = 1
            ask 0 1 0 9 1 = 1
            ask 0 1 0 9 1 = 2
            ask 0 2 1 9 1 = 3
            ask 0 1 0 1 1 = 4
            ask 1 2 1 9 2 = 5
            step 0 1 = 1
            free 2 = 1
            pass 1 = 1
            meets 1 2 = true; meets 2 1 = true
            meets 3 5 = true
            meets 1 4 = true; meets 4 2 = true
            meets 1 3 = false; meets 5 1 = false
            """);
        RUNS.run("promise 7: NoSuchElementException", Runs.row(2), "robot 0 off = 0; meets 1 1 ! NSE",
            Runs.asks(1, 60, "ask 0 1 0 9 1"), """
            meets 60 1 = true
            meets 1 60 = true
            meets 61 1 ! NSE
            meets 1 61 ! NSE
            meets 0 1 ! NSE
            meets 1 0 ! NSE
            meets 0 0 ! NSE
            meets 61 61 ! NSE
            """);
    }

    private static void stepAnswers() {
        RUNS.run("promise 8: (the first live one of it for this piece that has begun)", Runs.row(4), """
            robot 1 off = 0
            robot 3 off = 1
            ask 1 0 0 1 1 = 1
            ask 0 0 5 20 1 = 2
            ask 0 0 4 20 9 = 3
            ask 0 0 1 3 9 = 4
            ask 0 0 2 20 9 = 5
            ask 0 2 0 20 9 = 6
            step 0 0 = 0
            pass 3 = 2
            step 0 0 = 5
            step 0 1 = 0
            ask 0 1 3 20 1 = 7
            step 0 1 = 7
            step 0 0 = 0
            pass 4 = 0
            step 0 0 = 3
            """);
        RUNS.run("promise 8: that has begun, not the one behind now", Runs.row(2), """
            robot 0 off = 0
            ask 0 1 5 20 1 = 1
            pass 4 = 0
            step 0 1 = 0
            pass 5 = 0
            step 0 1 = 1
            """);
        RUNS.run("promise 8: that has begun, the lower number first", Runs.row(2), """
            robot 0 off = 0
            ask 0 1 2 20 1 = 1
            ask 0 1 1 20 9 = 2
            pass 2 = 0
            step 0 1 = 1
            """);
        RUNS.run("promise 8: 0 it has none (a closed piece's were taken)", Runs.row(3), """
            robot 0 off = 0
            step 0 1 = 0
            ask 0 1 0 9 1 = 1
            zone 1 on = 1
            step 0 1 = 0
            zone 1 off = 0
            step 0 1 = 0
            told 0 0 = 0
            """);
        RUNS.run("promise 8: 0 .., -1 another robot stands there (asked in this order)", Runs.row(4), """
            robot 0 off = 0
            robot 2 on = 1
            ask 0 1 10 20 1 = 1
            ask 1 1 0 10 1 = 2
            step 1 1 = 2
            step 0 1 = 0
            pass 10 = 0
            step 0 1 = -1
            ask 1 2 10 20 1 = 3
            step 1 2 = 3
            told 1 1 = 1
            step 0 1 = -1
            grant 1 5 = 0
            free 1 = 0
            step 0 1 = 0
            """);
    }

    private static void stepRefused() {
        RUNS.run("promise 8: IllegalArgumentException: the pieces are not linked", Runs.row(4), """
            robot 1 on = 0
            ask 0 1 0 9 1 = 1
            step 0 1 ! IAE
            ask 0 3 0 9 1 = 2
            step 0 3 ! IAE
            link 0 3 on = 2
            step 0 3 ! IAE
            ask 0 0 0 9 1 = 3
            step 0 0 = 3
            step 0 2 ! IAE
            step 0 3 = 2
            link 3 0 off = 1
            step 0 0 ! IAE
            """);
        RUNS.run("promise 8: linked with the robot's piece, not with its tail's", Runs.row(3), """
            piece = 3
            link 3 0 on = 1
            robot 0 on = 0
            ask 0 1 0 9 1 = 1
            ask 0 3 0 9 1 = 2
            step 0 1 = 1
            told 0 1 = 0
            step 0 3 ! IAE
            """);
        RUNS.run("promise 8: IllegalStateException: it is halted or silent", Runs.row(2), """
            robot 0 off = 0
            halt 0 on = 0
            step 0 1 ! ISE
            halt 0 off = 0
            step 0 1 = 0
            ask 0 1 0 100 1 = 1
            pass 31 = 0
            step 0 1 ! ISE
            grant 1 5 = 0
            report 0 = true
            pass 61 = 0
            step 0 1 = 1
            """);
    }

    private static void stepEndsWait() {
        RUNS.run("promise 8: Its wait ends by a step", Runs.row(4), """
            robot 1 off = 0
            robot 2 off = 1
            robot 3 off = 2
            await 0 2 = 0
            await 1 3 = 0
            step 0 0 = 0
            told 0 2 = 2
            ask 0 0 0 9 1 = 1
            step 0 0 = 1
            told 0 2 = -1; told 1 2 = 3
            count 5 = 1
            next 2 = -1
            """);
        RUNS.run("promise 8: Its wait ends by a step, not by one that is not made", Runs.row(3), """
            robot 0 off = 0
            ask 0 1 0 9 1 = 1
            robot 1 off = 1
            await 0 1 = 0
            step 0 1 = -1
            told 0 2 = 1
            step 0 2 ! IAE
            told 0 2 = 1
            ask 1 2 0 9 1 = 2
            step 1 2 = 2
            told 0 2 = 1
            step 0 1 = 1
            told 0 2 = -1
            """);
    }

    private static void pull() {
        RUNS.run("promise 9: IllegalStateException: it stands on none but its own", Runs.row(3), """
            robot 0 on = 0
            robot 2 off = 1
            pull 0 ! ISE
            pull 1 ! ISE
            pull 2 ! NSE
            pull -1 ! NSE
            ask 0 1 0 9 1 = 1
            step 0 1 = 1
            pull 0 = 0
            pull 0 ! ISE
            ask 0 0 0 9 1 = 2
            step 0 0 = 2
            pull 0 = 1
            pull 0 ! ISE
            """);
        RUNS.run("promise 9: A robot's tail leaves the piece that it came from", Runs.row(16), """
            robot 15 on = 0
            ask 0 14 0 9 1 = 1
            step 0 14 = 1
            holder 15 0 = 0
            await 0 15 ! ISE
            pull 0 = 15
            holder 15 0 = -1
            holder 14 0 = 0
            told 0 1 = -1
            zone 15 on = 0
            """);
    }

    private static void await() {
        RUNS.run("promise 10: (instead of another one)", Runs.pieces(3), Runs.robots(3), """
            await 0 1 = 0
            await 0 1 = 0
            await 0 2 = 0
            told 0 2 = 2
            count 5 = 1
            next 1 = -1
            next 2 = 0
            """);
        RUNS.run("promise 10: if that would be a ring, .. it does not wait anew", Runs.pieces(4), Runs.robots(4), """
            await 0 1 = 0
            await 1 0 = -2
            told 1 2 = -1
            await 1 3 = 0
            await 1 0 = -2
            told 1 2 = 3
            await 2 0 = 0
            await 3 2 = -4
            await 3 1 = -2
            await 3 0 = -3
            told 3 2 = -1
            count 5 = 3
            """);
        RUNS.run("promise 10: a ring, by who stands there now", Runs.row(5), """
            robot 0 off = 0
            robot 1 off = 1
            await 0 1 = 0
            ask 1 2 0 9 1 = 1
            step 1 2 = 1
            await 1 0 = 0
            robot 1 off = 2
            await 2 2 = -3
            await 2 0 = -2
            told 2 2 = -1
            halt 1 on = 0
            await 2 2 = 0
            await 1 1 = -2
            await 1 0 = -3
            told 1 2 = -1
            """);
        RUNS.run("promise 10: IllegalStateException: no other robot stands there", Runs.row(4), """
            robot 0 on = 0
            robot 3 off = 1
            await 0 0 ! ISE
            await 0 1 ! ISE
            await 0 3 = 0
            ask 0 1 0 9 1 = 1
            zone 2 on = 0
            await 0 2 ! ISE
            await 1 1 ! ISE
            step 0 1 = 1
            await 0 0 ! ISE
            await 1 0 = 0
            told 0 2 = -1
            await 0 3 = -2
            """);
    }

    private static void next() {
        RUNS.run("promise 11: -1 if none waits", Runs.row(3), """
            next 0 = -1
            next 3 ! NSE
            next -1 ! NSE
            robot 0 off = 0
            robot 1 off = 1
            ask 0 2 0 9 9 = 1
            next 0 = -1; next 1 = -1; next 2 = -1
            await 0 1 = 0
            next 0 = -1; next 1 = 0; next 2 = -1
            """);
        RUNS.run("promise 11: (0 without), of equal ones the lowest", Runs.pieces(7), """
            robot 1 off = 0; robot 2 off = 1; robot 3 off = 2; robot 4 off = 3; robot 5 off = 4
            ask 4 0 5 6 1 = 1
            ask 3 0 6 7 1 = 2
            ask 2 0 7 8 9 = 3
            ask 1 0 8 9 9 = 4
            robot 0 off = 5
            await 4 0 = 0
            next 0 = 4
            await 0 0 = 0
            next 0 = 4
            await 3 0 = 0
            next 0 = 3
            await 2 0 = 0
            next 0 = 2
            await 1 0 = 0
            next 0 = 1
            free 4 = 0
            next 0 = 2
            free 3 = 0
            next 0 = 3
            pass 6 = 1
            next 0 = 3
            pass 7 = 1
            next 0 = 0
            halt 0 on = 0
            next 0 = 1
            """);
        RUNS.run("promise 11: greatest priority of live grants for it", Runs.pieces(5), """
            robot 1 off = 0; robot 2 off = 1
            ask 0 0 0 9 3 = 1
            ask 0 0 0 9 1 = 2
            ask 1 0 9 19 4 = 3
            ask 1 0 19 29 1 = 4
            ask 0 4 0 9 9 = 5
            robot 0 off = 2
            await 0 0 = 0; await 1 0 = 0
            next 0 = 1
            free 3 = 1
            next 0 = 0
            free 1 = 2
            next 0 = 0
            free 2 = 1
            next 0 = 1
            """);
        RUNS.run("promise 11: greatest priority of live grants for it, not the first, the last or all of them together",
            Runs.pieces(5), """
            robot 1 off = 0; robot 2 off = 1; robot 3 off = 2
            ask 1 0 0 9 4 = 1
            ask 1 0 9 19 5 = 2
            ask 1 0 9 19 4 = 3
            ask 2 0 19 29 6 = 4
            ask 0 0 30 39 5 = 5
            robot 0 off = 3
            await 0 0 = 0; await 1 0 = 0
            next 0 = 0
            await 2 0 = 0
            next 0 = 2
            halt 2 on = 1
            next 0 = 0
            halt 0 on = 1
            next 0 = 1
            """);
        RUNS.run("promise 11: of those that wait for it, halted and silent ones, too", Runs.pieces(4), """
            robot 1 off = 0; robot 2 off = 1
            robot 0 off = 2
            await 0 0 = 0; await 1 0 = 0
            halt 0 on = 0
            next 0 = 1
            await 0 0 = 0
            next 0 = 0
            pass 31 = 0
            next 0 = 0
            """);
    }

    private static void zone() {
        RUNS.run("promise 12: how many live grants for it were taken by that", Runs.row(3), """
            robot 0 off = 0
            robot 2 off = 1
            zone 1 on = 0
            zone 1 off = 0
            ask 0 1 0 9 9 = 1
            ask 0 1 0 9 9 = 2
            ask 1 1 9 19 1 = 3
            ask 1 2 9 19 1 = 4
            free 2 = 1
            zone 1 on = 2
            grant 1 5 = 3; grant 2 5 = 2; grant 3 5 = 3; grant 4 5 = 0
            zone 1 off = 0
            grant 1 5 = 3
            zone 1 on = 0
            """);
        RUNS.run("promise 12: how many live grants for it were taken by that, sixty", Runs.row(2), "robot 0 off = 0",
            Runs.asks(1, 60, "ask 0 1 0 9 1"), "zone 1 on = 60; count 3 = 0; grant 1 5 = 3; grant 60 5 = 3");
        RUNS.run("promise 12: IllegalStateException: it is so, or a robot stands on it", Runs.row(3), """
            robot 0 on = 0
            zone 1 off ! ISE
            zone 0 on ! ISE
            zone 0 off ! ISE
            zone 1 on = 0
            zone 1 on ! ISE
            zone 1 off = 0
            zone 1 off ! ISE
            ask 0 1 0 9 1 = 1
            ask 0 0 0 9 1 = 2
            step 0 1 = 1
            zone 0 on ! ISE
            zone 1 on ! ISE
            grant 2 5 = 0
            pull 0 = 0
            zone 0 on = 1
            zone 3 on ! NSE
            zone -1 on ! NSE
            zone 3 off ! NSE
            """);
    }

    private static void halt() {
        RUNS.run("promise 13: how many of its live grants were freed (all, if it is halted; its wait ends, too)",
            Runs.row(4), """
            robot 0 off = 0
            robot 3 off = 1
            halt 1 on = 0
            halt 1 off = 0
            ask 0 1 0 9 1 = 1
            ask 0 2 0 9 1 = 2
            ask 0 2 0 9 1 = 3
            ask 1 2 9 19 1 = 4
            step 0 1 = 1
            free 2 = 1
            ask 0 0 9 19 1 = 5
            await 0 3 = 0
            await 1 1 = -2
            halt 0 on = 2
            grant 1 5 = 1; grant 2 5 = 2; grant 3 5 = 2; grant 4 5 = 0; grant 5 5 = 2
            told 0 2 = -1; told 0 3 = 0; told 1 3 = 1
            await 1 1 = 0
            halt 0 off = 0
            told 0 2 = -1; told 0 3 = 0; told 1 2 = 1
            """);
        RUNS.run("promise 13: how many of its live grants were freed, sixty", Runs.row(2), "robot 0 off = 0",
            Runs.asks(1, 60, "ask 0 1 0 9 1"), "halt 0 on = 60; count 3 = 0; grant 1 5 = 2; grant 60 5 = 2");
        RUNS.run("promise 13: IllegalStateException: it is so", Runs.pieces(7), Runs.robots(6), """
            halt 0 off ! ISE
            halt 5 off ! ISE
            halt 5 on = 0
            halt 5 on ! ISE
            halt 4 off ! ISE
            pass 31 = 0
            halt 5 on ! ISE
            halt 5 off = 0
            halt 5 off ! ISE
            halt 0 on = 0
            halt 6 on ! NSE
            halt 6 off ! NSE
            halt -1 on ! NSE
            """);
    }

    private static void report() {
        RUNS.run("promise 14: whether it was silent", Runs.pieces(7), Runs.robots(6), """
            report 0 = false
            report 6 ! NSE
            report -1 ! NSE
            pass 30 = 0
            report 0 = false
            pass 31 = 0
            report 5 = true
            report 5 = false
            report 0 = false
            pass 61 = 0
            report 0 = false
            report 5 = false
            pass 10000 = 0
            report 5 = true
            report 5 = false
            told 5 6 = 10000
            """);
    }

    private static void pass() {
        RUNS.run("promise 15: IllegalArgumentException: before now, or above 10000", Runs.row(2), """
            robot 0 off = 0
            ask 0 1 0 50 1 = 1
            pass -1 ! IAE
            pass 10001 ! IAE
            pass 49 = 0
            pass 48 ! IAE
            pass 49 = 0
            pass 10001 ! IAE
            pass 10000 = 1
            pass 10000 = 0
            pass 10001 ! IAE
            """);
        RUNS.run("promise 15: how many live grants are over by that", Runs.row(3), """
            pass 0 = 0
            robot 0 off = 0
            robot 2 off = 1
            ask 0 1 0 10 1 = 1; ask 0 1 0 10 1 = 2; ask 0 1 0 10 1 = 3; ask 0 1 0 11 1 = 4; ask 1 2 0 10 1 = 5
            free 2 = 3
            step 0 1 = 1
            pass 9 = 0
            pass 10 = 2
            pass 10 = 0
            pass 11 = 1
            grant 1 5 = 1; grant 2 5 = 2; grant 3 5 = 4; grant 4 5 = 4; grant 5 5 = 4
            """);
        RUNS.run("promise 15: how many live grants are over by that, sixty", Runs.row(2), "robot 0 off = 0",
            Runs.asks(1, 60, "ask 0 1 0 100 1"), "pass 99 = 0; pass 100 = 60; pass 101 = 0; count 3 = 0");
    }

    private static void holder() {
        RUNS.run("promise 16: at a time (not before now)", Runs.row(2), """
            robot 0 off = 0
            ask 0 1 0 9 1 = 1
            holder 1 -1 ! IAE
            holder 0 -1 ! IAE
            holder 1 0 = 0
            pass 5 = 0
            holder 1 4 ! IAE
            holder 0 4 ! IAE
            holder 1 5 = 0
            holder 0 5 = 0
            holder 2 4 ! NSE
            pass 10000 = 1
            holder 1 9999 ! IAE
            holder 1 10000 = -1
            holder 0 10000 = 0
            """);
        RUNS.run("promise 16: at a time, behind the last one that can be now", Runs.row(2), """
            pass 10000 = 0
            robot 0 off = 0
            ask 0 1 10000 10100 1 = 1
            holder 1 10001 = 0
            holder 1 10099 = 0
            holder 1 10100 = -1
            holder 0 10001 = 0
            holder 1 greatest = -1
            holder 0 greatest = 0
            """);
        RUNS.run("promise 16: one that stands on it", Runs.row(3), """
            robot 0 on = 0
            robot 2 off = 1
            ask 1 1 0 50 9 = 1
            ask 0 1 50 60 9 = 2
            holder 1 0 = 1; holder 1 50 = 0
            pass 50 = 1
            report 0 = true; report 1 = true
            step 0 1 = 2
            ask 0 0 60 70 1 = 3
            holder 1 50 = 0; holder 1 99 = 0; holder 0 50 = 0; holder 0 60 = 0
            pull 0 = 0
            holder 0 59 = -1; holder 0 60 = 0
            """);
        RUNS.run("promise 16: has the time in its span (of several the first grant's); -1 if none", Runs.row(4), """
            robot 0 off = 0
            robot 3 off = 1
            holder 1 0 = -1
            ask 0 1 5 10 9 = 1
            ask 1 1 10 15 1 = 2
            ask 0 1 4 6 1 = 3
            holder 1 3 = -1; holder 1 4 = 0; holder 1 9 = 0; holder 1 10 = 1; holder 1 14 = 1; holder 1 15 = -1
            holder 2 5 = -1
            free 1 = 1
            holder 1 5 = 0; holder 1 6 = -1
            zone 1 on = 2
            holder 1 5 = -1; holder 1 10 = -1
            """);
    }

    private static void told() {
        RUNS.run("promise 17: 0 its piece .. 6 its last report", Runs.pieces(16), "robot 15 on = 0", """
            told 0 0 = 15; told 0 1 = -1; told 0 2 = -1; told 0 3 = 0; told 0 4 = 0; told 0 5 = 0; told 0 6 = 0
            told 0 -1 ! IAE
            told 0 7 ! IAE
            told 1 0 ! NSE
            told -1 0 ! NSE
            told 1 7 ! NSE
            told -1 -1 ! NSE
            pass 10000 = 0
            told 0 5 = 1; told 0 6 = 0
            report 0 = true
            told 0 5 = 0; told 0 6 = 10000
            """);
        RUNS.run("promise 17: 3 live grants, none to sixty", Runs.row(2), "robot 0 off = 0; told 0 3 = 0",
            Runs.asks(1, 60, "ask 0 1 0 9 1"), "told 0 3 = 60; free 1 = 59; told 0 3 = 59; pass 9 = 59; told 0 3 = 0");
        RUNS.run("promise 17: 1 the piece of its tail, 2 the piece for which it waits, piece 0", Runs.row(3), """
            robot 0 on = 0
            robot 2 off = 1
            ask 0 1 0 9 1 = 1
            step 0 1 = 1
            told 0 1 = 0
            await 1 0 = 0
            told 1 2 = 0
            halt 1 on = 0
            told 1 2 = -1; told 1 4 = 1
            """);
    }

    private static void grant() {
        RUNS.run("promise 18: 0 its robot .. 5 its state", Runs.row(2), """
            robot 0 off = 0
            grant 1 0 ! NSE
            ask 0 1 99 100 9 = 1
            grant 1 0 = 0; grant 1 1 = 1; grant 1 2 = 99; grant 1 3 = 100; grant 1 4 = 9; grant 1 5 = 0
            grant 1 -1 ! IAE
            grant 1 6 ! IAE
            grant 0 0 ! NSE
            grant 2 0 ! NSE
            grant -1 0 ! NSE
            grant 0 6 ! NSE
            grant 2 -1 ! NSE
            """);
        RUNS.run("promise 18: its state (0 live, 1 used, 2 freed, 3 taken, 4 over)", Runs.row(3), """
            robot 0 off = 0
            robot 2 off = 1
            ask 0 1 0 9 1 = 1; ask 0 1 0 9 1 = 2; ask 0 1 9 10 1 = 3; ask 0 1 0 1 1 = 4; ask 0 0 0 9 1 = 5; ask 1 1 9 10 2 = 6
            ask 1 2 5 6 2 = 7
            free 2 = 3
            step 0 1 = 1
            pass 1 = 1
            halt 1 on = 2
            grant 1 5 = 1; grant 2 5 = 2; grant 3 5 = 3; grant 4 5 = 4; grant 5 5 = 0; grant 6 5 = 2; grant 7 5 = 2
            grant 3 0 = 0; grant 3 1 = 1; grant 3 2 = 9; grant 3 3 = 10; grant 3 4 = 1
            """);
    }

    private static void count() {
        RUNS.run("promise 19: -1 for another what", Runs.pieces(1), """
            count -1 = -1
            count 7 = -1
            count 8 = -1
            count least = -1
            count greatest = -1
            count 6 = 0
            count 0 = 1
            """);
        RUNS.run("promise 19: all at their greatest", Runs.pieces(16), Runs.robots(6), """
            await 0 1 = 0; await 1 2 = 0; await 2 3 = 0; await 3 4 = 0; await 4 5 = 0
            pass 10000 = 0
            report 0 = true
            """, Runs.asks(1, 60, "ask 0 15 10000 10100 9"), """
            count 0 = 16; count 1 = 6; count 2 = 60; count 3 = 60; count 4 = 10000; count 5 = 5; count 6 = 1770
            free 60 = 59
            count 2 = 60; count 3 = 59; count 6 = 1711
            """);
        RUNS.run("promise 19: 6 pairs of live grants that meet", Runs.row(4), """
            robot 0 off = 0
            robot 3 off = 1
            count 6 = 0
            ask 0 1 0 10 1 = 1
            count 6 = 0
            ask 1 1 10 20 1 = 2
            count 6 = 0
            ask 0 1 9 10 1 = 3
            count 6 = 1
            ask 0 2 0 10 1 = 4
            count 6 = 1
            ask 0 1 0 1 1 = 5
            count 6 = 2
            ask 1 1 19 30 1 = 6
            count 6 = 3
            free 2 = 1
            count 6 = 2
            pass 1 = 1
            count 6 = 1
            zone 1 on = 3
            count 6 = 0
            """);
    }
}
