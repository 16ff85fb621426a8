/** Each sentence of the document's part "Terms" that names a boundary has a run of its own; its words are the title. */
public final class TermsTest {
    private static final Runs RUNS = new Runs();

    public static void main(String[] args) {
        calls();
        now();
        pieces();
        links();
        closedPieces();
        robots();
        tails();
        oneRobotAtMost();
        grants();
        spans();
        priorities();
        liveGrants();
        halted();
        silent();
        reports();
        waits();
        rings();
        RUNS.end();
    }

    private static void calls() {
        RUNS.run("An object is used for at most 512 calls", "count 4 = 0\n".repeat(509), """
            piece = 0
            robot 0 off = 0
            told 0 0 = 0
            """);
        RUNS.run("An object is used for at most 512 calls, dear ones", Runs.row(2), "robot 0 off = 0",
            Runs.asks(1, 60, "ask 0 1 0 100 1"), "count 6 = 1770\n".repeat(448));
    }

    private static void now() {
        RUNS.run("NOW is a time 0 .. 10000 (0 at first) that goes on", """
            count 4 = 0
            pass -1 ! IAE
            pass 0 = 0
            pass 1 = 0
            pass 0 ! IAE
            pass 1 = 0
            count 4 = 1
            pass 10001 ! IAE
            pass 9999 = 0
            pass 9998 ! IAE
            pass 10001 ! IAE
            pass 10000 = 0
            pass 10001 ! IAE
            pass 9999 ! IAE
            pass 0 ! IAE
            pass 10000 = 0
            count 4 = 10000
            """);
        RUNS.run("NOW is a time 0 .. 10000, all at once", "pass 10000 = 0; count 4 = 10000");
    }

    private static void pieces() {
        RUNS.run("PIECES 0, 1, .. (at most 16, as they come)", "count 0 = 0", Runs.pieces(15), """
            count 0 = 15
            next 14 = -1
            next 15 ! NSE
            link 14 15 on ! NSE
            piece = 15
            next 15 = -1
            link 14 15 on = 1
            piece ! UOE
            piece ! UOE
            next 16 ! NSE
            link 15 16 on ! NSE
            count 0 = 16
            """);
    }

    private static void links() {
        StringBuilder lines = new StringBuilder();
        for (int other = 1; other < 16; other++) {
            lines.append("link 0 ").append(other).append(" on = ").append(other).append('\n');
            lines.append("link ").append(other).append(" 0 on = 1\n");
        }
        for (int other = 1; other < 15; other++) {
            lines.append("link 15 ").append(other).append(" on = ").append(other + 1).append('\n');
        }
        for (int other = 0; other < 15; other++) {
            lines.append("link 15 ").append(other).append(" off = ").append(14 - other).append('\n');
        }
        for (int other = 14; other > 0; other--) {
            lines.append("link ").append(other).append(" 0 off = 0\n");
        }
        RUNS.run("PIECES are LINKED two by two, or not", Runs.pieces(16), "link 0 15 off = 0", lines.toString(),
            "link 0 15 off = 0; link 15 0 off = 0");
    }

    private static void closedPieces() {
        StringBuilder lines = new StringBuilder();
        for (int piece = 0; piece < 16; piece++) {
            lines.append("zone ").append(piece).append(" off ! ISE\n");
            lines.append("zone ").append(piece).append(" on = 0\n");
            lines.append("robot ").append(piece).append(" off ! ISE\n");
        }
        for (int piece = 0; piece < 16; piece++) {
            lines.append("zone ").append(piece).append(" on ! ISE\n");
            lines.append("zone ").append(piece).append(" off = 0\n");
        }
        RUNS.run("A piece may be CLOSED", Runs.pieces(16), lines.toString(), "robot 15 off = 0; robot 0 on = 1");
    }

    private static void robots() {
        RUNS.run("ROBOTS 0, 1, .. (at most 6)", Runs.pieces(16), "count 1 = 0", Runs.robots(5), """
            told 4 0 = 4
            told 5 0 ! NSE
            robot 5 on = 5
            told 5 0 = 5
            told 6 0 ! NSE
            robot 6 off ! UOE
            robot 15 on ! UOE
            count 1 = 6
            halt 0 on = 0
            pass 31 = 0
            robot 6 off ! UOE
            count 1 = 6
            """);
    }

    private static void tails() {
        RUNS.run("one with a TAIL also on the piece that it came from last (none at first), till its next step",
            Runs.row(4), """
            robot 0 on = 0
            told 0 1 = -1
            ask 0 1 0 20 1 = 1; ask 0 2 0 20 1 = 2; ask 0 1 0 20 1 = 3
            step 0 1 = 1
            told 0 0 = 1; told 0 1 = 0
            zone 0 on ! ISE
            step 0 0 = 0
            told 0 0 = 1; told 0 1 = 0
            zone 0 on ! ISE
            step 0 2 = 2
            told 0 0 = 2; told 0 1 = 1
            zone 0 on = 0
            zone 1 on ! ISE
            step 0 1 = 3
            told 0 0 = 1; told 0 1 = 2
            zone 2 on ! ISE
            """);
        RUNS.run("one with a TAIL also on the piece that it came from last, till its next pull()", Runs.row(4), """
            robot 0 on = 0
            pull 0 ! ISE
            ask 0 1 0 20 1 = 1; ask 0 2 0 20 1 = 2
            step 0 1 = 1
            pull 0 = 0
            told 0 0 = 1; told 0 1 = -1
            zone 0 on = 0
            pull 0 ! ISE
            step 0 2 = 2
            told 0 1 = 1
            pull 0 = 1
            pull 0 ! ISE
            """);
        RUNS.run("one with a TAIL, and one without", Runs.row(3), """
            robot 0 off = 0
            told 0 1 = -1
            ask 0 1 0 20 1 = 1
            step 0 1 = 1
            told 0 1 = -1
            pull 0 ! ISE
            zone 0 on = 0
            """);
    }

    private static void oneRobotAtMost() {
        StringBuilder lines = new StringBuilder();
        for (int robot = 0; robot < 6; robot++) {
            int from = 2 * robot;
            int to = from + 1;
            int grant = robot + 1;
            lines.append("link ").append(from).append(' ').append(to).append(" on = 1\n");
            lines.append("robot ").append(from).append(" on = ").append(robot).append('\n');
            lines.append("robot ").append(from).append(" on ! ISE\n");
            lines.append("ask ").append(robot).append(' ').append(to).append(" 0 9 1 = ").append(grant).append('\n');
            lines.append("step ").append(robot).append(' ').append(to).append(" = ").append(grant).append('\n');
        }
        for (int piece = 0; piece < 12; piece++) {
            lines.append("robot ").append(piece).append(" off ! ISE\n");
            lines.append("zone ").append(piece).append(" on ! ISE\n");
            lines.append("holder ").append(piece).append(" 0 = ").append(piece / 2).append('\n');
        }
        RUNS.run("On a piece stands one robot at most", Runs.pieces(16), lines.toString(), "robot 12 off ! UOE");
        RUNS.run("On a piece stands one robot at most, none steps onto another one or its tail", Runs.row(4), """
            robot 1 on = 0
            robot 3 off = 1
            ask 0 2 0 5 1 = 1
            ask 1 2 5 50 1 = 2
            step 0 2 = 1
            pass 5 = 0
            step 1 2 = -1
            told 1 0 = 3
            ask 0 1 5 50 1 = 3
            step 0 1 = 3
            step 1 2 = -1
            pull 0 = 2
            step 1 2 = 2
            """);
    }

    private static void grants() {
        RUNS.run("GRANTS 1, 2, .. (at most 60 ever), none has its place anew", Runs.row(4), """
            count 2 = 0
            robot 0 off = 0
            robot 3 off = 1
            grant 0 5 ! NSE
            grant 1 5 ! NSE
            ask 0 3 0 9 9 = 0
            count 2 = 0
            ask 0 1 0 9 9 = 1
            ask 0 1 0 9 9 = 2
            ask 0 2 2 9 1 = 3
            ask 0 2 0 1 1 = 4
            step 0 1 = 1
            free 2 = 2
            ask 1 2 2 9 2 = 5
            pass 1 = 1
            grant 1 5 = 1; grant 2 5 = 2; grant 3 5 = 3; grant 4 5 = 4; grant 5 5 = 0
            """, Runs.asks(6, 59, "ask 0 1 1 9 1"), """
            grant 59 4 = 1
            grant 60 4 ! NSE
            ask 0 1 1 9 9 = 60
            grant 60 4 = 9
            ask 0 1 1 9 1 ! UOE
            grant 61 4 ! NSE
            free 60 = 54
            ask 0 1 1 9 1 ! UOE
            count 2 = 60
            grant 60 5 = 2
            grant 0 5 ! NSE
            """);
    }

    private static void spans() {
        RUNS.run("a span from a time to a later one (that one not counted)", Runs.row(3), """
            robot 0 off = 0
            robot 2 off = 1
            ask 0 1 6 5 1 ! IAE
            ask 0 1 5 5 1 ! IAE
            ask 0 1 5 6 1 = 1
            ask 1 1 5 6 1 = -1
            ask 1 1 4 6 1 = -1
            ask 1 1 5 7 1 = -1
            ask 1 1 4 7 1 = -1
            ask 1 1 4 5 1 = 2
            ask 1 1 6 7 1 = 3
            meets 1 2 = false; meets 1 3 = false; meets 2 3 = false
            holder 1 3 = -1; holder 1 4 = 1; holder 1 5 = 0; holder 1 6 = 1; holder 1 7 = -1
            """);
    }

    private static void priorities() {
        RUNS.run("a priority 1 .. 9", Runs.row(2), """
            robot 0 off = 0
            ask 0 1 0 9 0 ! IAE
            ask 0 1 0 9 1 = 1
            ask 0 1 0 9 9 = 2
            ask 0 1 0 9 10 ! IAE
            ask 0 1 0 9 -1 ! IAE
            ask 0 1 0 9 -9 ! IAE
            grant 1 4 = 1; grant 2 4 = 9
            """);
    }

    private static void liveGrants() {
        RUNS.run("OVER: now is not before its end", Runs.row(2), """
            robot 0 off = 0
            ask 0 1 0 10 1 = 1
            ask 0 1 0 11 1 = 2
            pass 9 = 0
            grant 1 5 = 0
            pass 10 = 1
            grant 1 5 = 4; grant 2 5 = 0
            free 1 ! ISE
            step 0 1 = 2
            """);
        RUNS.run("LIVE till .., at its last time a grant is still used", Runs.row(2), """
            robot 0 off = 0
            ask 0 1 0 10 1 = 1
            pass 9 = 0
            step 0 1 = 1
            """);
        RUNS.run("LIVE till .., at its end a grant is not used any more", Runs.row(2), """
            robot 0 off = 0
            ask 0 1 0 10 1 = 1
            pass 10 = 1
            step 0 1 = 0
            """);
        RUNS.run("LIVE till .., and never anew", Runs.row(4), """
            robot 0 off = 0
            robot 3 off = 1
            ask 0 1 0 9 1 = 1
            ask 0 1 0 9 1 = 2
            ask 0 2 1 9 1 = 3
            ask 0 1 0 1 1 = 4
            ask 1 2 1 9 2 = 5
            step 0 1 = 1
            free 2 = 1
            pass 1 = 1
            zone 2 on = 1
            halt 0 on = 0
            free 1 ! ISE
            free 2 ! ISE
            free 3 ! ISE
            free 4 ! ISE
            free 5 ! ISE
            pass 9 = 0
            grant 1 5 = 1; grant 2 5 = 2; grant 3 5 = 3; grant 4 5 = 4; grant 5 5 = 3
            """);
    }

    private static void halted() {
        RUNS.run("A robot is HALTED, or not (not at first)", Runs.row(2), """
            robot 0 off = 0
            told 0 4 = 0
            halt 0 off ! ISE
            halt 0 on = 0
            told 0 4 = 1
            halt 0 on ! ISE
            halt 0 off = 0
            told 0 4 = 0
            """);
    }

    private static void silent() {
        RUNS.run("it is SILENT if now is more than 30 behind its last REPORT", Runs.row(2), """
            pass 5 = 0
            robot 0 off = 0
            pass 35 = 0
            told 0 5 = 0
            ask 0 1 35 36 1 = 1
            pass 65 = 1
            told 0 5 = 0
            step 0 1 = 0
            pass 96 = 0
            told 0 5 = 1
            ask 0 1 96 97 1 ! ISE
            step 0 1 ! ISE
            told 0 6 = 65
            report 0 = true
            step 0 1 = 0
            """);
        RUNS.run("it is SILENT .., at the last time", Runs.pieces(2), """
            pass 9969 = 0
            robot 0 off = 0
            pass 9970 = 0
            robot 1 off = 1
            pass 10000 = 0
            told 0 5 = 1; told 1 5 = 0
            report 1 = false; report 0 = true
            """);
    }

    /** A robot that came at 0 and reports at 20 by the call is silent from 51 on, else from 31 on. */
    private static void reported(String call) {
        RUNS.run("its last REPORT (when it came, asked, tried to step, pulled or reported): " + call, Runs.row(4), """
            robot 1 on = 0
            robot 3 off = 1
            ask 0 0 0 100 1 = 1
            step 0 0 = 1
            ask 0 1 0 100 1 = 2
            pass 20 = 0
            """, call, """
            told 0 6 = 20
            pass 50 = 0
            told 0 5 = 0
            pass 51 = 0
            told 0 5 = 1
            told 0 6 = 20
            """);
    }

    private static void notReported(String call) {
        RUNS.run("its last REPORT (when it came, asked, tried to step, pulled or reported), not: " + call,
            Runs.row(4), """
            robot 1 off = 0
            robot 3 off = 1
            ask 0 0 0 100 1 = 1
            ask 1 2 0 100 1 = 2
            pass 20 = 0
            """, call, """
            told 0 6 = 0
            pass 30 = 0
            told 0 5 = 0
            pass 31 = 0
            told 0 5 = 1
            """);
    }

    private static void reports() {
        reported("ask 0 2 20 60 1 = 3");
        reported("ask 0 3 20 30 1 = 0");
        reported("zone 2 on = 0; ask 0 2 20 30 1 = 0");
        reported("ask 1 2 20 60 1 = 3; ask 0 2 20 30 9 = -3");
        reported("step 0 1 = 2");
        reported("free 2 = 0; step 0 1 = 0");
        reported("pull 0 = 1; robot 1 off = 2; step 0 1 = -1");
        reported("pull 0 = 1");
        reported("report 0 = false");
        notReported("free 1 = 0");
        notReported("await 0 3 = 0");
        notReported("halt 0 on = 1");
        notReported("halt 0 on = 1; halt 0 off = 0");
        notReported("next 3 = -1; holder 1 20 = 0; meets 1 2 = false; count 5 = 0; grant 1 0 = 0; told 0 3 = 1");
        notReported("zone 0 on = 1");
        notReported("link 0 1 off = 0");
        notReported("report 1 = false");
        notReported("ask 0 2 19 30 1 ! IAE");
        notReported("ask 0 4 20 30 1 ! NSE");
        notReported("step 0 3 ! IAE");
        notReported("step 0 4 ! NSE");
        notReported("pull 0 ! ISE");
        notReported("halt 0 on = 1; ask 0 2 20 30 1 ! ISE; step 0 2 ! ISE");
        RUNS.run("its last REPORT, an ask that has no room is none", Runs.row(2), "robot 0 off = 0",
            Runs.asks(1, 60, "ask 0 1 0 9 1"), "pass 5 = 0; ask 0 1 5 9 1 ! UOE; told 0 6 = 0");
    }

    private static void waits() {
        RUNS.run("A robot may WAIT for a piece on which another one stands", Runs.row(6), """
            robot 0 off = 0
            robot 2 on = 1
            told 0 2 = -1
            await 0 0 ! ISE
            await 0 1 ! ISE
            await 0 5 ! ISE
            await 0 2 = 0
            told 0 2 = 2
            ask 1 3 0 9 1 = 1
            step 1 3 = 1
            await 1 2 ! ISE
            await 1 3 ! ISE
            await 0 3 = 0
            await 0 2 = 0
            told 0 2 = 2
            pull 1 = 2
            await 0 2 ! ISE
            told 0 2 = 2
            await 0 3 = 0
            await 1 0 = -2
            """);
    }

    private static void rings() {
        for (int robots = 2; robots <= 6; robots++) {
            StringBuilder lines = new StringBuilder();
            for (int robot = 0; robot < robots - 1; robot++) {
                lines.append("await ").append(robot).append(' ').append(robot + 1).append(" = 0\n");
            }
            int last = robots - 1;
            lines.append("count 5 = ").append(last).append('\n');
            for (int piece = 0; piece < last; piece++) {
                lines.append("await ").append(last).append(' ').append(piece).append(" = ").append(piece - robots).append('\n');
            }
            lines.append("told ").append(last).append(" 2 = -1\n");
            lines.append("await ").append(last).append(' ').append(last).append(" ! ISE\n");
            lines.append("count 5 = ").append(last).append('\n');
            RUNS.run("none may end where it began (a RING), " + robots + " robots", Runs.pieces(7),
                Runs.robots(robots), lines.toString());
        }
        RUNS.run("none may end where it began (a RING), several may wait for one piece", Runs.pieces(7), Runs.robots(6), """
            await 1 0 = 0; await 2 0 = 0; await 3 0 = 0; await 4 0 = 0; await 5 0 = 0
            count 5 = 5
            await 0 1 = -2; await 0 5 = -2
            await 5 4 = 0
            await 0 5 = -3
            told 0 2 = -1
            """);
    }
}
