/** For each promise runs of calls on a new object with the answers that are due. */
public final class PromisesTest {
    private static final Runs RUNS = new Runs();

    public static void main(String[] args) {
        newObject();
        pieces();
        links();
        robotsCome();
        asksRefused();
        asksAnswered();
        asksTakeLesserGrants();
        asksWithoutRoom();
        frees();
        meetings();
        stepsRefused();
        stepsAnswered();
        stepsWithTails();
        pulls();
        waits();
        rings();
        nextOnes();
        zones();
        halts();
        reports();
        reportsOfOtherCalls();
        passes();
        holders();
        toldOfRobots();
        toldOfGrants();
        counts();
        RUNS.end();
    }

    private static void run(String title, String... blocks) {
        RUNS.run(title, blocks);
    }

    private static String row(int n) {
        return Runs.row(n);
    }

    private static void newObject() {
        run("promise 1", """
            count 0 = 0; count 1 = 0; count 2 = 0; count 3 = 0; count 4 = 0; count 5 = 0; count 6 = 0
            next 0 ! NSE
            told 0 0 ! NSE
            grant 1 0 ! NSE
            holder 0 0 ! NSE
            pass 0 = 0
            """);
        ReserveSteps first = new ReserveSteps();
        first.piece();
        first.pass(9);
        run("promise 1, a second object", "count 0 = 0; count 4 = 0; piece = 0");
    }

    private static void pieces() {
        run("promise 2", """
            piece = 0; piece = 1; piece = 2; piece = 3; piece = 4; piece = 5; piece = 6; piece = 7
            piece = 8; piece = 9; piece = 10; piece = 11; piece = 12; piece = 13; piece = 14; piece = 15
            piece ! UOE
            piece ! UOE
            count 0 = 16
            link 15 0 on = 1
            link 16 0 on ! NSE
            """);
    }

    private static void links() {
        run("promise 3", """
            piece = 0; piece = 1; piece = 2; piece = 3
            link 0 1 on = 1
            link 0 1 on = 1
            link 1 0 on = 1
            link 0 2 on = 2
            link 0 3 on = 3
            link 3 0 off = 0
            link 0 1 on = 2
            link 0 3 off = 2
            link 1 2 on = 2
            link 0 1 off = 1
            link 1 0 off = 1
            link 2 2 on ! IAE
            link 2 2 off ! IAE
            link 4 0 on ! NSE
            link 0 4 on ! NSE
            link -1 0 on ! NSE
            link 0 -1 off ! NSE
            link 4 4 on ! NSE
            link 2147483647 -2147483648 on ! NSE
            link 2 3 off = 2
            """);
        run("promise 3, a link goes both ways and can be undone", row(3), """
            robot 1 off = 0
            step 0 0 = 0
            step 0 2 = 0
            link 0 1 off = 0
            step 0 0 ! IAE
            step 0 2 = 0
            """);
    }

    private static void robotsCome() {
        run("promise 4", row(9), """
            robot 9 off ! NSE
            robot -1 on ! NSE
            pass 7 = 0
            robot 0 on = 0
            told 0 0 = 0; told 0 1 = -1; told 0 2 = -1; told 0 3 = 0; told 0 4 = 0; told 0 5 = 0; told 0 6 = 7
            robot 0 off ! ISE
            zone 1 on = 0
            robot 1 off ! ISE
            zone 1 off = 0
            robot 1 off = 1
            robot 3 off = 2; robot 4 off = 3; robot 5 off = 4; robot 6 off = 5
            robot 6 off ! ISE
            robot 7 off ! UOE
            robot 9 off ! NSE
            count 1 = 6
            told 6 0 ! NSE
            """);
        run("promise 4, not onto a tail", row(3), """
            robot 0 on = 0
            ask 0 1 0 5 1 = 1; step 0 1 = 1
            robot 0 off ! ISE
            pull 0 = 0
            robot 0 off = 1
            """);
        run("promise 4, a foreign grant does not keep a robot away", row(2), """
            robot 0 off = 0
            ask 0 1 0 50 9 = 1
            robot 1 off = 1
            grant 1 5 = 0
            """);
    }

    private static void asksRefused() {
        run("promise 5, refusals", row(3), """
            robot 0 off = 0
            ask 1 1 0 5 1 ! NSE
            ask -1 1 0 5 1 ! NSE
            ask 0 3 0 5 1 ! NSE
            ask 0 -1 0 5 1 ! NSE
            ask 1 1 5 5 0 ! NSE
            ask 0 1 -1 5 1 ! IAE
            ask 0 1 5 5 1 ! IAE
            ask 0 1 6 5 1 ! IAE
            ask 0 1 0 101 1 ! IAE
            ask 0 1 0 2147483647 1 ! IAE
            ask 0 1 2147483647 -2147483648 1 ! IAE
            ask 0 1 0 5 0 ! IAE
            ask 0 1 0 5 10 ! IAE
            ask 0 1 0 5 -2147483648 ! IAE
            pass 20 = 0
            ask 0 1 19 30 1 ! IAE
            ask 0 1 20 121 1 ! IAE
            ask 0 1 20 120 1 = 1
            ask 0 1 119 120 9 = 2
            halt 0 on = 2
            ask 0 1 20 120 1 ! ISE
            ask 0 1 20 120 10 ! IAE
            halt 0 off = 0
            pass 50 = 0
            ask 0 1 50 60 1 = 3
            pass 81 = 1
            ask 0 1 81 90 1 ! ISE
            ask 0 1 81 81 1 ! IAE
            told 0 6 = 50
            """);
        run("promise 5, a span may end behind the last time", row(2), """
            robot 0 off = 0
            pass 10000 = 0
            report 0 = true
            ask 0 1 10000 10100 1 = 1
            ask 0 1 10000 10101 1 ! IAE
            """);
    }

    private static void asksAnswered() {
        run("promise 5, closed or stood on", row(4), """
            robot 0 on = 0
            robot 3 off = 1
            ask 0 3 0 5 9 = 0
            ask 0 0 0 5 9 = 1
            zone 2 on = 0
            ask 0 2 0 5 9 = 0
            ask 0 1 0 5 9 = 2
            step 0 1 = 2
            ask 1 0 50 60 9 = 0
            ask 0 0 50 60 9 = 3
            count 2 = 3
            """);
        run("promise 5, the first grant that bars", row(3), """
            robot 0 off = 0
            robot 2 off = 1
            ask 0 1 0 10 1 = 1
            ask 0 1 10 20 5 = 2
            ask 0 1 15 30 5 = 3
            ask 1 1 0 30 9 = -1
            ask 1 1 9 10 9 = -1
            ask 1 1 10 30 5 = -2
            ask 1 1 19 30 4 = -2
            ask 1 1 20 30 5 = -3
            ask 1 1 30 40 1 = 4
            free 1 = 2
            ask 1 1 0 10 1 = 5
            grant 2 5 = 0; grant 3 5 = 0; grant 4 5 = 0
            """);
        run("promise 5, standing bars before grants do", row(3), """
            robot 0 off = 0
            robot 2 off = 1
            ask 0 1 0 10 5 = 1
            robot 1 off = 2
            ask 1 1 0 10 5 = 0
            """);
        run("promise 5, own grants and other pieces bar nothing", row(3), """
            robot 0 off = 0
            robot 2 off = 1
            ask 0 1 0 10 9 = 1
            ask 0 1 0 10 1 = 2
            ask 1 0 0 10 1 = 0
            ask 1 2 0 10 1 = 3
            grant 1 5 = 0
            """);
    }

    private static void asksTakeLesserGrants() {
        run("promise 5, lesser grants that have not begun are taken", row(4), """
            robot 0 off = 0
            robot 3 off = 1
            ask 0 1 1 10 3 = 1
            ask 0 1 10 20 3 = 2
            ask 0 1 20 30 3 = 3
            ask 0 2 1 30 3 = 4
            ask 1 1 9 11 3 = -1
            ask 1 1 9 20 4 = 5
            grant 1 5 = 3; grant 2 5 = 3; grant 3 5 = 0; grant 4 5 = 0; grant 5 5 = 0
            told 0 3 = 2; told 1 3 = 1
            ask 1 1 20 30 5 = 6
            grant 3 5 = 3
            ask 0 1 9 30 5 = -6
            ask 0 1 9 30 6 = 7
            grant 5 5 = 3; grant 6 5 = 3
            """);
        run("promise 5, one that bars saves the others", row(3), """
            robot 0 off = 0
            robot 2 off = 1
            ask 0 1 10 20 1 = 1
            ask 0 1 20 30 7 = 2
            ask 1 1 10 30 7 = -2
            grant 1 5 = 0
            ask 0 1 12 15 1 = 3
            pass 10 = 0
            ask 1 1 10 30 9 = -1
            ask 1 1 11 12 9 = -1
            ask 1 1 20 30 9 = 4
            grant 1 5 = 0; grant 2 5 = 3; grant 3 5 = 0
            """);
        run("promise 5, own grants are not taken", row(3), """
            robot 0 off = 0
            ask 0 1 5 9 1 = 1
            ask 0 1 5 9 9 = 2
            grant 1 5 = 0
            count 3 = 2
            """);
    }

    private static void asksWithoutRoom() {
        StringBuilder sixty = new StringBuilder();
        for (int grant = 1; grant <= 60; grant++) {
            sixty.append("ask 0 1 0 5 1 = ").append(grant).append('\n');
            sixty.append("free ").append(grant).append(" = 0\n");
        }
        run("promise 5, sixty grants", row(4), "robot 0 off = 0; robot 2 off = 1; zone 3 on = 0", sixty.toString(), """
            count 2 = 60
            ask 0 1 0 5 1 ! UOE
            ask 0 2 0 5 1 ! UOE
            ask 0 3 0 5 1 ! UOE
            ask 0 1 5 5 1 ! IAE
            ask 2 1 0 5 1 ! NSE
            halt 0 on = 0
            ask 0 1 0 5 1 ! ISE
            grant 60 5 = 2
            grant 61 5 ! NSE
            """);
    }

    private static void frees() {
        run("promise 6", row(3), """
            robot 0 off = 0
            robot 2 off = 1
            free 1 ! NSE
            ask 0 1 0 5 1 = 1
            ask 0 1 5 9 1 = 2
            ask 0 0 5 9 1 = 3
            ask 1 2 5 9 1 = 4
            free 0 ! NSE
            free 5 ! NSE
            free -1 ! NSE
            free 2 = 2
            grant 2 5 = 2
            free 2 ! ISE
            free 4 = 0
            free 1 = 1
            count 3 = 1
            ask 1 1 6 9 5 = 5
            ask 0 1 6 9 6 = 6
            free 5 ! ISE
            pass 9 = 2
            free 3 ! ISE
            free 6 ! ISE
            """);
        run("promise 6, a used grant; a halted and silent robot's", row(3), """
            robot 0 off = 0
            ask 0 1 0 90 1 = 1
            ask 0 1 0 90 1 = 2
            step 0 1 = 1
            free 1 ! ISE
            pass 80 = 0
            free 2 = 0
            told 0 6 = 0
            """);
    }

    private static void meetings() {
        run("promise 7", row(3), """
            robot 0 off = 0
            robot 2 off = 1
            ask 0 1 0 5 1 = 1
            ask 0 1 4 9 1 = 2
            ask 0 1 5 9 1 = 3
            ask 0 0 0 9 1 = 4
            ask 0 1 6 7 1 = 5
            meets 1 1 = true
            meets 1 2 = true; meets 2 1 = true
            meets 1 3 = false; meets 3 1 = false
            meets 2 3 = true
            meets 1 4 = false; meets 2 4 = false
            meets 2 5 = true; meets 5 2 = true; meets 1 5 = false
            meets 0 1 ! NSE
            meets 1 0 ! NSE
            meets 1 6 ! NSE
            meets -1 7 ! NSE
            free 1 = 4
            meets 1 2 = true
            pass 50 = 4
            meets 1 2 = true; meets 1 3 = false
            """);
    }

    private static void stepsRefused() {
        run("promise 8, refusals", row(4), """
            robot 0 off = 0
            ask 0 1 0 90 1 = 1
            ask 0 2 0 90 1 = 2
            step 1 1 ! NSE
            step -1 1 ! NSE
            step 0 4 ! NSE
            step 0 -1 ! NSE
            step 0 0 ! IAE
            step 0 2 ! IAE
            halt 0 on = 2
            step 0 1 ! ISE
            step 0 2 ! IAE
            halt 0 off = 0
            ask 0 1 0 90 1 = 3
            pass 31 = 0
            step 0 1 ! ISE
            step 0 2 ! IAE
            step 0 4 ! NSE
            told 0 0 = 0
            report 0 = true
            step 0 1 = 3
            """);
        run("promise 8, thirty behind is not silent", row(2), """
            robot 0 off = 0
            ask 0 1 0 90 1 = 1
            pass 30 = 0
            step 0 1 = 1
            told 0 6 = 30
            """);
    }

    private static void stepsAnswered() {
        run("promise 8, the first live grant that has begun", row(3), """
            robot 0 off = 0
            robot 2 off = 1
            ask 0 1 5 20 1 = 1
            ask 0 1 0 3 9 = 2
            ask 0 1 1 20 1 = 3
            ask 0 1 0 20 1 = 4
            ask 0 0 0 20 1 = 5
            free 4 = 4
            pass 3 = 1
            step 0 1 = 3
            grant 3 5 = 1; grant 1 5 = 0
            told 0 0 = 1; told 0 1 = -1; told 0 3 = 2
            holder 0 3 = 0
            step 0 0 = 5
            step 0 1 = 0
            pass 5 = 0
            step 0 1 = 1
            told 0 3 = 0
            """);
        run("promise 8, no grant before another robot", row(3), """
            robot 0 off = 0
            step 0 1 = 0
            ask 0 1 1 20 1 = 1
            step 0 1 = 0
            robot 1 off = 1
            step 0 1 = 0
            ask 1 2 0 20 1 = 2
            pass 1 = 0
            step 0 1 = -1
            grant 1 5 = 0
            told 0 0 = 0
            step 1 2 = 2
            step 0 1 = 1
            """);
        run("promise 8, a closed piece's grants were taken", row(2), """
            robot 0 off = 0
            ask 0 1 0 20 1 = 1
            zone 1 on = 1
            step 0 1 = 0
            zone 1 off = 0
            step 0 1 = 0
            """);
        run("promise 8, another robot's grant is not one of its own", row(3), """
            robot 0 off = 0
            robot 2 off = 1
            ask 1 1 0 20 1 = 1
            step 0 1 = 0
            """);
        run("promise 8, a wait ends by a step, not by a try", row(4), """
            robot 1 off = 0
            robot 2 off = 1
            await 0 2 = 0
            step 0 0 = 0
            told 0 2 = 2
            step 0 2 = 0
            told 0 2 = 2
            ask 0 0 0 20 1 = 1
            step 0 0 = 1
            told 0 2 = -1
            count 5 = 0
            """);
    }

    private static void stepsWithTails() {
        run("promise 8, tails", row(4), """
            robot 0 on = 0
            robot 3 off = 1
            ask 0 1 0 20 1 = 1; ask 0 2 0 20 1 = 2; ask 0 1 0 20 1 = 3
            step 0 1 = 1
            told 0 0 = 1; told 0 1 = 0; holder 0 0 = 0
            step 0 2 = 2
            told 0 0 = 2; told 0 1 = 1; holder 0 0 = -1
            ask 1 1 0 5 9 = 0
            step 0 1 = 3
            told 0 0 = 1; told 0 1 = 2
            """);
        run("promise 8, not onto another one's tail", row(4), """
            robot 1 on = 0
            robot 0 off = 1
            ask 1 2 0 20 1 = 1
            ask 0 2 20 30 1 = 2
            pass 20 = 1
            step 0 2 = 2
            ask 1 1 20 30 1 = 0
            pull 0 = 1
            ask 1 1 20 30 1 = 3
            ask 0 1 30 40 1 = 4
            step 1 1 = 3
            pass 30 = 0
            step 0 1 = -1
            """);
        run("promise 8, a tail bars a grant that was there before", row(3), """
            robot 1 on = 0
            robot 2 off = 1
            link 0 2 on = 2
            ask 0 0 0 50 1 = 1
            step 0 0 = 1
            pull 0 = 1
            ask 1 1 10 50 1 = 2
            ask 0 1 0 10 1 = 3
            step 0 1 = 3
            ask 0 0 0 10 1 = 4
            step 0 0 = 4
            pass 10 = 0
            step 1 1 = -1
            pull 0 = 1
            step 1 1 = 2
            """);
    }

    private static void pulls() {
        run("promise 9", row(3), """
            robot 0 on = 0
            robot 2 off = 1
            pull 2 ! NSE
            pull -1 ! NSE
            pull 0 ! ISE
            pull 1 ! ISE
            ask 0 1 0 20 1 = 1
            step 0 1 = 1
            pass 4 = 0
            pull 0 = 0
            told 0 1 = -1
            told 0 0 = 1
            told 0 6 = 4
            holder 0 4 = -1
            pull 0 ! ISE
            """);
        run("promise 9, without a tail", row(3), """
            robot 0 off = 0
            ask 0 1 0 20 1 = 1
            step 0 1 = 1
            pull 0 ! ISE
            """);
        run("promise 9, halted and silent ones may pull", row(3), """
            robot 0 on = 0
            ask 0 1 0 20 1 = 1
            step 0 1 = 1
            halt 0 on = 0
            pass 31 = 0
            told 0 5 = 1
            pull 0 = 0
            told 0 5 = 0
            """);
    }

    private static void waits() {
        run("promise 10", row(5), """
            robot 0 off = 0
            robot 1 on = 1
            robot 4 off = 2
            await 3 1 ! NSE
            await -1 1 ! NSE
            await 0 5 ! NSE
            await 0 -1 ! NSE
            await 0 0 ! ISE
            await 0 2 ! ISE
            await 0 1 = 0
            told 0 2 = 1
            count 5 = 1
            await 0 4 = 0
            told 0 2 = 4
            count 5 = 1
            await 0 2 ! ISE
            told 0 2 = 4
            ask 1 2 0 20 1 = 1
            step 1 2 = 1
            await 0 1 = 0
            await 1 1 ! ISE
            pull 1 = 1
            told 0 2 = 1
            await 0 1 ! ISE
            pass 40 = 0
            await 0 2 = 0
            told 0 6 = 0
            """);
        run("promise 10, a halted one may wait", row(2), """
            robot 0 off = 0
            robot 1 off = 1
            halt 0 on = 0
            await 0 1 = 0
            told 0 2 = 1
            """);
    }

    private static void rings() {
        run("promise 10, rings", row(6), """
            robot 0 off = 0; robot 1 off = 1; robot 2 off = 2; robot 3 off = 3; robot 4 off = 4; robot 5 off = 5
            await 0 1 = 0
            await 1 0 = -2
            told 1 2 = -1
            await 1 2 = 0
            await 1 0 = -2
            told 1 2 = 2
            await 2 3 = 0
            await 3 4 = 0
            await 4 5 = 0
            await 5 0 = -6
            await 5 1 = -5
            await 5 2 = -4
            await 5 3 = -3
            await 5 4 = -2
            told 5 2 = -1
            count 5 = 5
            halt 4 on = 0
            await 5 0 = 0
            await 4 5 = -6
            await 3 0 = -4
            told 3 2 = 4
            await 3 5 = -5
            """);
        run("promise 10, rings through tails", row(5), """
            robot 0 on = 0
            robot 3 off = 1
            ask 0 1 0 20 1 = 1
            step 0 1 = 1
            await 0 3 = 0
            await 1 0 = -2
            await 1 1 = -2
            pull 0 = 0
            await 1 0 ! ISE
            await 1 1 = -2
            """);
        run("promise 10, a piece that was left ends the row", row(5), """
            robot 0 off = 0
            robot 1 off = 1
            robot 4 off = 2
            await 0 1 = 0
            ask 1 2 0 20 1 = 1
            step 1 2 = 1
            await 1 0 = 0
            ask 2 3 0 20 1 = 2
            told 0 2 = 1
            await 0 2 = -2
            told 0 2 = 1
            """);
        run("promise 10, a wait is taken anew instead of the old one", row(4), """
            robot 0 off = 0
            robot 1 off = 1
            robot 2 off = 2
            await 0 1 = 0
            await 0 2 = 0
            await 1 0 = 0
            await 2 1 = -3
            """);
    }

    private static void nextOnes() {
        run("promise 11", row(6), """
            robot 0 off = 0; robot 1 off = 1; robot 2 off = 2; robot 3 on = 3
            next 6 ! NSE
            next -1 ! NSE
            next 3 = -1
            await 2 3 = 0
            next 3 = 2
            await 1 3 = 0
            next 3 = 1
            ask 3 4 0 20 1 = 1
            ask 2 4 0 9 9 = -1
            step 3 4 = 1
            next 3 = 1
            pull 3 = 3
            next 3 = 1
            ask 2 3 50 60 2 = 2
            next 3 = 2
            ask 0 3 70 80 9 = 3
            next 3 = 2
            ask 1 3 60 61 1 = 4
            next 3 = 2
            ask 1 3 61 62 2 = 5
            next 3 = 1
            ask 2 3 80 81 3 = 6
            ask 2 3 81 82 1 = 7
            next 3 = 2
            free 6 = 2
            next 3 = 1
            ask 1 5 0 20 9 = 8
            free 5 = 2
            next 3 = 2
            halt 2 on = 2
            next 3 = 1
            halt 1 on = 2
            next 3 = -1
            next 4 = -1
            next 0 = -1
            """);
        run("promise 11, the least priority is more than none", row(4), """
            robot 0 off = 0; robot 1 off = 1; robot 2 off = 2
            ask 1 3 5 10 1 = 1
            robot 3 off = 3
            await 0 3 = 0
            next 3 = 0
            await 1 3 = 0
            next 3 = 1
            pass 10 = 1
            next 3 = 0
            """);
    }

    private static void zones() {
        run("promise 12", row(5), """
            robot 0 on = 0
            robot 4 off = 1
            zone 5 on ! NSE
            zone -1 off ! NSE
            zone 0 on ! ISE
            zone 0 off ! ISE
            zone 2 off ! ISE
            ask 0 2 0 20 9 = 1
            ask 0 2 5 20 9 = 2
            ask 1 2 30 40 1 = 3
            ask 1 3 0 40 1 = 4
            ask 0 2 50 60 1 = 5
            free 5 = 2
            zone 2 on = 3
            grant 1 5 = 3; grant 2 5 = 3; grant 3 5 = 3; grant 4 5 = 0; grant 5 5 = 2
            zone 2 on ! ISE
            robot 2 off ! ISE
            ask 0 2 0 20 9 = 0
            zone 2 off = 0
            zone 2 off ! ISE
            ask 0 2 0 20 9 = 6
            ask 0 1 0 20 9 = 7
            step 0 1 = 7
            zone 0 on ! ISE
            pull 0 = 0
            zone 0 on = 0
            zone 2 on = 1
            """);
    }

    private static void halts() {
        run("promise 13", row(4), """
            robot 0 off = 0
            robot 3 off = 1
            halt 2 on ! NSE
            halt -1 off ! NSE
            halt 0 off ! ISE
            ask 0 1 0 20 1 = 1
            ask 0 1 5 20 1 = 2
            ask 0 2 30 40 1 = 3
            ask 1 2 0 20 1 = 4
            free 3 = 2
            await 0 3 = 0
            halt 0 on = 2
            grant 1 5 = 2; grant 2 5 = 2; grant 3 5 = 2; grant 4 5 = 0
            told 0 2 = -1; told 0 3 = 0; told 0 4 = 1; told 1 4 = 0
            halt 0 on ! ISE
            ask 0 1 0 20 1 ! ISE
            step 0 1 ! ISE
            pass 3 = 0
            halt 0 off = 0
            told 0 4 = 0; told 0 6 = 0
            halt 0 off ! ISE
            ask 0 1 3 20 1 = 5
            step 0 1 = 5
            """);
    }

    private static void reports() {
        run("promise 14", row(2), """
            robot 0 off = 0
            robot 1 off = 1
            report 2 ! NSE
            report -1 ! NSE
            report 0 = false
            pass 30 = 0
            told 0 5 = 0
            pass 31 = 0
            told 0 5 = 1
            report 0 = true
            told 0 5 = 0; told 0 6 = 31
            told 1 5 = 1; told 1 6 = 0
            report 0 = false
            halt 0 on = 0
            pass 62 = 0
            report 0 = true
            told 0 4 = 1
            """);
    }

    private static void reportsOfOtherCalls() {
        run("the last report", row(4), """
            pass 1 = 0
            robot 0 on = 0
            robot 2 off = 1
            told 0 6 = 1
            pass 2 = 0
            ask 0 2 2 5 1 = 0
            told 0 6 = 2
            pass 3 = 0
            ask 0 1 3 90 1 = 1
            told 0 6 = 3
            pass 4 = 0
            ask 1 1 4 9 9 = -1
            told 1 6 = 4
            pass 5 = 0
            step 1 1 = 0
            told 1 6 = 5
            pass 6 = 0
            step 0 1 = 1
            told 0 6 = 6
            ask 1 3 6 90 1 = 2
            pass 7 = 0
            pull 0 = 0
            told 0 6 = 7
            pass 8 = 0
            free 2 = 0; await 0 2 = 0; halt 0 on = 0; halt 0 off = 0; next 2 = -1
            told 0 6 = 7; told 1 6 = 6
            ask 0 3 8 8 1 ! IAE
            step 0 3 ! IAE
            told 0 6 = 7
            """);
        run("the last report, a try to step onto a piece with a robot", row(3), """
            robot 0 off = 0
            ask 0 1 0 90 1 = 1
            robot 1 off = 1
            pass 9 = 0
            step 0 1 = -1
            told 0 6 = 9
            """);
    }

    private static void passes() {
        run("promise 15", row(2), """
            robot 0 off = 0
            ask 0 1 0 5 1 = 1
            ask 0 1 3 6 1 = 2
            ask 0 1 6 7 1 = 3
            ask 0 1 0 5 1 = 4
            ask 0 1 0 6 1 = 5
            free 4 = 4
            step 0 1 = 1
            pass -1 ! IAE
            pass 10001 ! IAE
            pass 2147483647 ! IAE
            pass 5 = 0
            pass 4 ! IAE
            count 4 = 5
            pass 5 = 0
            pass 6 = 2
            grant 1 5 = 1; grant 2 5 = 4; grant 3 5 = 0; grant 4 5 = 2; grant 5 5 = 4
            pass 6 = 0
            pass 10000 = 1
            count 3 = 0
            count 4 = 10000
            pass 10000 = 0
            pass 9999 ! IAE
            pass 10001 ! IAE
            """);
    }

    private static void holders() {
        run("promise 16", row(4), """
            robot 0 on = 0
            robot 3 off = 1
            holder 4 0 ! NSE
            holder -1 0 ! NSE
            holder 4 -1 ! NSE
            holder 0 -1 ! IAE
            holder 0 0 = 0
            holder 0 10000 = 0
            holder 3 50 = 1
            holder 1 0 = -1
            ask 0 1 5 10 1 = 1
            ask 1 1 10 20 1 = 2
            ask 0 1 0 6 1 = 3
            holder 1 0 = 0; holder 1 4 = 0; holder 1 5 = 0; holder 1 9 = 0
            holder 1 10 = 1; holder 1 19 = 1; holder 1 20 = -1
            ask 1 0 0 10 1 = 0
            step 0 1 = 3
            holder 1 15 = 0
            holder 0 15 = 0
            pull 0 = 0
            holder 0 0 = -1
            pass 6 = 0
            holder 0 5 ! IAE
            holder 0 6 = -1
            free 2 = 0
            holder 2 6 = -1
            ask 1 2 6 9 1 = 4
            holder 2 6 = 1
            free 4 = 0
            holder 2 6 = -1
            """);
    }

    private static void toldOfRobots() {
        run("promise 17", row(4), """
            robot 0 on = 0
            robot 3 off = 1
            told 2 0 ! NSE
            told -1 0 ! NSE
            told 2 7 ! NSE
            told 0 7 ! IAE
            told 0 -1 ! IAE
            told 0 2147483647 ! IAE
            pass 2 = 0
            ask 0 1 2 9 1 = 1
            ask 0 2 2 9 1 = 2
            step 0 1 = 1
            await 0 3 = 0
            told 0 0 = 1; told 0 1 = 0; told 0 2 = 3; told 0 3 = 1; told 0 4 = 0; told 0 5 = 0; told 0 6 = 2
            pass 33 = 1
            told 0 3 = 0; told 0 5 = 1
            told 1 0 = 3; told 1 1 = -1; told 1 2 = -1; told 1 3 = 0; told 1 4 = 0; told 1 5 = 1; told 1 6 = 0
            """);
    }

    private static void toldOfGrants() {
        run("promise 18", row(4), """
            robot 0 off = 0
            robot 3 off = 1
            ask 1 2 7 11 4 = 1
            grant 1 0 = 1; grant 1 1 = 2; grant 1 2 = 7; grant 1 3 = 11; grant 1 4 = 4; grant 1 5 = 0
            grant 1 6 ! IAE
            grant 1 -1 ! IAE
            grant 0 0 ! NSE
            grant 2 0 ! NSE
            grant -1 6 ! NSE
            grant 2 6 ! NSE
            ask 0 1 0 5 9 = 2
            ask 0 1 0 5 8 = 3
            ask 0 2 8 9 5 = 4
            ask 1 2 20 30 1 = 5
            step 0 1 = 2
            free 3 = 1
            pass 9 = 1
            grant 1 5 = 3; grant 2 5 = 1; grant 3 5 = 2; grant 4 5 = 4; grant 5 5 = 0
            grant 1 0 = 1; grant 2 4 = 9; grant 3 4 = 8; grant 4 1 = 2; grant 5 3 = 30
            """);
    }

    private static void counts() {
        run("promise 19", row(5), """
            count -1 = -1; count 7 = -1; count 2147483647 = -1; count -2147483648 = -1
            count 0 = 5
            robot 0 off = 0; robot 1 off = 1; robot 4 off = 2
            count 1 = 3
            ask 0 2 0 10 1 = 1; ask 0 2 5 15 1 = 2; ask 0 2 9 20 1 = 3; ask 0 3 0 20 1 = 4; ask 2 2 20 30 1 = 5
            count 2 = 5
            count 3 = 5
            count 6 = 3
            ask 0 3 19 21 1 = 6
            count 6 = 4
            free 6 = 4
            free 2 = 3
            count 2 = 6
            count 3 = 4
            count 6 = 1
            await 0 1 = 0; await 1 4 = 0
            count 5 = 2
            halt 1 on = 0
            count 5 = 1
            pass 10 = 1
            count 4 = 10
            count 3 = 3
            count 6 = 0
            """);
    }
}
