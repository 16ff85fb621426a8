import java.util.ArrayList;
import java.util.Arrays;
import java.util.Collections;
import java.util.List;

/**
 * For each call, from one state with something of everything, all that it changes, and that it changes nothing
 * else: each change is written "name: before > after", and what is not written must be as it was.
 */
public final class ChangesTest {
    private static final int PIECES = 9;
    private static final int ROBOTS = 4;
    private static final int GRANTS = 9;
    /**
     * Time 10. Pieces 0 to 8 in a row, 8 closed. Robot 0 stands on 0, its tail on 1, and waits for 3; robot 1
     * stands on 3 and waits for 5; robot 2, with a tail, stands on 5 and waits for none; robot 3 stands on 7,
     * waits for 5 and is halted. Grants: 1 used, 2 begun (robot 0, piece 1), 3 and 5 not begun (robot 1, piece 2),
     * 4 begun (robot 2, piece 4), 6 over, 7 taken, 8 freed, 9 not begun (robot 0, piece 4). All reported at 3.
     */
    private static final String BASE = """
        pass 3 = 0
        robot 1 on = 0; robot 3 off = 1; robot 5 on = 2; robot 7 off = 3
        ask 0 0 3 90 5 = 1; step 0 0 = 1; ask 0 1 3 90 4 = 2
        ask 1 2 20 60 2 = 3; ask 2 4 3 90 7 = 4; ask 1 2 60 80 6 = 5
        ask 3 6 3 9 1 = 6; ask 3 6 40 60 1 = 7; ask 2 6 40 60 3 = 8; free 8 = 1; ask 0 4 91 95 1 = 9
        await 0 3 = 0; await 1 5 = 0; await 3 5 = 0
        zone 8 on = 0
        pass 10 = 1
        halt 3 on = 0; await 3 5 = 0
        """;
    private static final List<String> BASE_CALLS = calls(Runs.row(PIECES) + BASE);

    private static int wrong = 0;

    public static void main(String[] args) {
        looks();
        pieces();
        links();
        robots();
        asksGranted();
        asksNotGranted();
        frees();
        steps();
        stepsNotMade();
        pulls();
        awaits();
        zones();
        halts();
        reports();
        passes();
        System.out.println(wrong == 0 ? "all changes are as due" : wrong + " calls do not change what is due");
        Runs base = new Runs();
        base.run("the state from which the changes are", Runs.row(PIECES), BASE);
        base.end();
        if (wrong != 0) {
            System.exit(1);
        }
    }

    private static List<String> parts(String text) {
        return text.isBlank() ? List.of() : Arrays.asList(text.strip().split("\\s*[\n;]\\s*"));
    }

    private static List<String> calls(String run) {
        List<String> calls = new ArrayList<>();
        parts(run).forEach(line -> calls.add(line.split(" [=!]")[0]));
        return calls;
    }

    private static Snapshot snapshot(List<String> calls) {
        return new Snapshot(calls, PIECES + 1, ROBOTS + 1, GRANTS + 2);
    }

    /** The calls are made behind the base; the last one answers and changes what is due. */
    private static void change(String run, String... due) {
        List<String> before = new ArrayList<>(BASE_CALLS);
        before.addAll(calls(run));
        String last = before.remove(before.size() - 1);
        List<String> after = new ArrayList<>(before);
        after.add(last);
        List<String> changes = snapshot(before).changesTo(snapshot(after));
        List<String> dues = new ArrayList<>();
        Arrays.stream(due).forEach(text -> dues.addAll(parts(text)));
        dues.removeIf(String::isEmpty);
        List<String> differences = new ArrayList<>(wrongAnswers(run));
        changes.stream().filter(line -> !dues.contains(line)).forEach(line -> differences.add("is too much: " + line));
        dues.stream().filter(line -> !changes.contains(line)).forEach(line -> differences.add("is missing: " + line));
        if (!differences.isEmpty()) {
            wrong++;
            System.out.println(run.strip());
            differences.forEach(line -> System.out.println("  " + line));
        }
    }

    private static List<String> wrongAnswers(String run) {
        ReserveSteps x = new ReserveSteps();
        BASE_CALLS.forEach(call -> Calls.answer(x, call));
        List<String> answers = new ArrayList<>();
        for (String line : parts(run)) {
            String[] sides = line.split(" = ");
            String got = Calls.answer(x, sides[0]);
            if (!got.equals(sides[1])) {
                answers.add(sides[0] + " answered " + got + ", due is " + sides[1]);
            }
        }
        return answers;
    }

    private static String grant(int number, int robot, int piece, int from, int to, int priority) {
        int[] rows = {robot, piece, from, to, priority, 0};
        StringBuilder lines = new StringBuilder();
        for (int what = 0; what < rows.length; what++) {
            lines.append("grant ").append(number).append(' ').append(what).append(": none > ").append(rows[what]).append('\n');
        }
        return lines.toString();
    }

    private static String holder(int piece, int before, int after, int... times) {
        StringBuilder lines = new StringBuilder();
        for (int time : times) {
            lines.append("holder ").append(piece).append(' ').append(time).append(": ").append(before).append(" > ")
                .append(after).append('\n');
        }
        return lines.toString();
    }

    private static void looks() {
        for (String look : parts("""
                count 0 = 9; count 1 = 4; count 2 = 9; count 3 = 5; count 4 = 10; count 5 = 3; count 6 = 0; count 7 = -1
                next 0 = -1; next 3 = 0; next 5 = 1
                meets 2 3 = false; meets 3 5 = false; meets 3 3 = true; meets 7 8 = true; meets 4 9 = false
                holder 0 10 = 0; holder 1 99 = 0; holder 2 20 = 1; holder 4 90 = -1; holder 4 91 = 0; holder 8 10 = -1
                told 0 0 = 0; told 0 1 = 1; told 1 2 = 5; told 2 3 = 1; told 3 4 = 1; told 0 5 = 0; told 2 6 = 3
                grant 1 0 = 0; grant 3 1 = 2; grant 4 2 = 3; grant 5 3 = 80; grant 9 4 = 1
                grant 1 5 = 1; grant 2 5 = 0; grant 6 5 = 4; grant 7 5 = 3; grant 8 5 = 2
                """)) {
            change(look);
        }
    }

    private static void pieces() {
        change("piece = 9", "count 0: 9 > 10", """
            next 9: none > -1
            holder 9 50: none > -1; holder 9 70: none > -1; holder 9 93: none > -1
            """);
    }

    private static void links() {
        change("link 0 8 on = 2", "linked 0 8: no > yes; linked 8 0: no > yes");
        change("link 0 1 off = 0", "linked 0 1: yes > no; linked 1 0: yes > no");
        change("link 1 0 off = 1", "linked 0 1: yes > no; linked 1 0: yes > no");
        change("link 2 3 off = 1", "linked 2 3: yes > no; linked 3 2: yes > no");
        change("link 4 5 off = 1", "linked 4 5: yes > no; linked 5 4: yes > no");
        change("link 0 1 on = 1");
        change("link 4 6 off = 2");
    }

    private static void robots() {
        String comes = """
            count 1: 4 > 5
            told 4 0: none > 2; told 4 1: none > -1; told 4 2: none > -1; told 4 3: none > 0
            told 4 4: none > 0; told 4 5: none > 0; told 4 6: none > 10
            """;
        String stands = holder(2, 1, 4, 50, 70) + holder(2, -1, 4, 93);
        change("robot 2 off = 4", comes, stands, "tailed 4: none > no");
        change("robot 2 on = 4", comes, stands, "tailed 4: none > yes");
        change("await 3 1 = 0; pull 0 = 1; robot 1 off = 4", comes.replace("told 4 0: none > 2", "told 4 0: none > 1"),
            holder(1, 0, 4, 50, 70), holder(1, -1, 4, 93), "tailed 4: none > no");
    }

    private static void asksGranted() {
        change("ask 2 2 15 65 7 = 10", grant(10, 2, 2, 15, 65, 7), """
            grant 3 5: 0 > 3; grant 5 5: 0 > 3
            count 2: 9 > 10; count 3: 5 > 4
            told 1 3: 2 > 0; told 2 3: 1 > 2; told 2 6: 3 > 10
            holder 2 50: 1 > 2; holder 2 70: 1 > -1
            """);
        change("ask 2 2 15 60 3 = 10", grant(10, 2, 2, 15, 60, 3), """
            grant 3 5: 0 > 3
            count 2: 9 > 10
            told 1 3: 2 > 1; told 2 3: 1 > 2; told 2 6: 3 > 10
            holder 2 50: 1 > 2
            """);
        change("ask 1 2 30 70 1 = 10", grant(10, 1, 2, 30, 70, 1), """
            count 2: 9 > 10; count 3: 5 > 6; count 6: 0 > 2
            told 1 3: 2 > 3; told 1 6: 3 > 10
            """);
        change("ask 0 6 10 20 1 = 10", grant(10, 0, 6, 10, 20, 1), """
            count 2: 9 > 10; count 3: 5 > 6
            told 0 3: 2 > 3; told 0 6: 3 > 10
            """);
        change("ask 0 1 90 110 9 = 10", grant(10, 0, 1, 90, 110, 9), """
            count 2: 9 > 10; count 3: 5 > 6
            told 0 3: 2 > 3; told 0 6: 3 > 10
            """);
        change("ask 0 0 10 110 9 = 10", grant(10, 0, 0, 10, 110, 9), """
            count 2: 9 > 10; count 3: 5 > 6
            told 0 3: 2 > 3; told 0 6: 3 > 10
            """);
    }

    private static void asksNotGranted() {
        change("ask 1 8 10 20 9 = 0", "told 1 6: 3 > 10");
        change("ask 1 1 10 20 9 = 0", "told 1 6: 3 > 10");
        change("ask 1 0 10 20 9 = 0", "told 1 6: 3 > 10");
        change("ask 1 7 10 20 9 = 0", "told 1 6: 3 > 10");
        change("ask 0 2 15 65 6 = -5", "told 0 6: 3 > 10");
        change("ask 0 2 15 65 1 = -3", "told 0 6: 3 > 10");
        change("ask 0 4 10 20 9 = -4", "told 0 6: 3 > 10");
        change("pass 34 = 0; report 0 = true; pass 35 = 0; ask 0 4 35 36 9 = -4", "told 0 6: 34 > 35");
        change("pass 34 = 0; report 0 = true; pass 35 = 0; ask 0 5 35 36 9 = 0", "told 0 6: 34 > 35");
    }

    private static void frees() {
        change("free 3 = 1", "grant 3 5: 0 > 2; count 3: 5 > 4; told 1 3: 2 > 1; holder 2 50: 1 > -1");
        change("free 2 = 1", "grant 2 5: 0 > 2; count 3: 5 > 4; told 0 3: 2 > 1");
        change("ask 2 2 15 65 7 = 10; free 10 = 1", "grant 10 5: 0 > 2; count 3: 4 > 3; told 2 3: 2 > 1; holder 2 50: 2 > -1");
        change("pass 34 = 0; free 4 = 0", "grant 4 5: 0 > 2; count 3: 5 > 4; told 2 3: 1 > 0",
            holder(4, 2, -1, 50, 70));
    }

    private static void steps() {
        change("step 0 1 = 2", """
            grant 2 5: 0 > 1
            told 0 0: 0 > 1; told 0 1: 1 > 0; told 0 2: 3 > -1; told 0 3: 2 > 1; told 0 6: 3 > 10
            count 3: 5 > 4; count 5: 3 > 2
            next 3: 0 > -1
            """);
        change("step 2 4 = 4", """
            grant 4 5: 0 > 1
            told 2 0: 5 > 4; told 2 1: -1 > 5; told 2 3: 1 > 0; told 2 6: 3 > 10
            count 3: 5 > 4
            holder 4 93: 0 > 2
            """);
        change("link 3 6 on = 3; ask 1 6 10 30 1 = 10; pass 11 = 0; step 1 6 = 10", """
            grant 10 5: 0 > 1
            told 1 0: 3 > 6; told 1 2: 5 > -1; told 1 3: 3 > 2; told 1 6: 10 > 11
            count 3: 6 > 5; count 5: 3 > 2
            next 5: 1 > 3
            """, holder(3, 1, -1, 50, 70, 93), holder(6, -1, 1, 50, 70, 93));
        change("""
            link 3 6 on = 3; ask 1 6 10 30 1 = 10; step 1 6 = 10; link 5 3 on = 3; ask 2 3 10 30 1 = 11; pass 11 = 0
            step 2 3 = 11
            """, """
            grant 11 5: 0 > 1
            told 2 0: 5 > 3; told 2 1: -1 > 5; told 2 3: 2 > 1; told 2 6: 10 > 11
            count 3: 6 > 5
            """, holder(3, -1, 2, 50, 70, 93));
        change("ask 2 4 10 90 9 = 10; ask 2 6 10 90 1 = 11; pass 11 = 0; step 2 4 = 4", """
            grant 4 5: 0 > 1
            told 2 0: 5 > 4; told 2 1: -1 > 5; told 2 3: 3 > 2; told 2 6: 10 > 11
            count 3: 7 > 6; count 6: 1 > 0
            holder 4 93: 0 > 2
            """);
    }

    private static void stepsNotMade() {
        change("step 1 4 = 0", "told 1 6: 3 > 10");
        change("step 1 2 = 0", "told 1 6: 3 > 10");
        change("free 2 = 1; step 0 1 = 0", "told 0 6: 3 > 10");
        change("robot 4 off = 4; step 2 4 = -1", "told 2 6: 3 > 10");
        change("pull 0 = 1; robot 1 on = 4; pass 11 = 0; step 0 1 = -1", "told 0 6: 10 > 11");
        change("robot 4 off = 4; halt 4 on = 0; pass 34 = 0; report 2 = true; pass 41 = 0; step 2 4 = -1",
            "told 2 6: 34 > 41");
    }

    private static void pulls() {
        change("pull 0 = 1", "told 0 1: 1 > -1; told 0 6: 3 > 10; holder 1 93: 0 > -1");
        change("await 3 1 = 0; pull 0 = 1", "told 0 1: 1 > -1; told 0 6: 3 > 10; holder 1 93: 0 > -1");
        change("pass 34 = 0; pull 0 = 1", "told 0 1: 1 > -1; told 0 5: 1 > 0; told 0 6: 3 > 34; holder 1 93: 0 > -1");
        change("halt 0 on = 2; pull 0 = 1", "told 0 1: 1 > -1; told 0 6: 3 > 10", holder(1, 0, -1, 50, 70, 93));
    }

    private static void awaits() {
        change("await 0 5 = 0", "told 0 2: 3 > 5; next 3: 0 > -1; next 5: 1 > 0");
        change("await 0 7 = 0", "told 0 2: 3 > 7; next 3: 0 > -1; next 7: -1 > 0");
        change("await 3 0 = 0", "told 3 2: 5 > 0; next 0: -1 > 3");
        change("await 3 1 = 0", "told 3 2: 5 > 1; next 1: -1 > 3");
        change("halt 1 on = 2; await 2 3 = 0", "told 2 2: -1 > 3; count 5: 2 > 3");
        change("pass 34 = 0; await 0 7 = 0", "told 0 2: 3 > 7; next 3: 0 > -1; next 7: -1 > 0");
        change("await 0 3 = 0");
        change("await 2 7 = -2");
        change("await 2 3 = -2");
        change("await 2 0 = -3");
        change("await 2 1 = -3");
        change("await 1 0 = -2");
        change("await 1 1 = -2");
    }

    private static void zones() {
        change("zone 2 on = 2", """
            closed 2: no > yes
            grant 3 5: 0 > 3; grant 5 5: 0 > 3
            told 1 3: 2 > 0; count 3: 5 > 3
            """, holder(2, 1, -1, 50, 70));
        change("zone 4 on = 2", """
            closed 4: no > yes
            grant 4 5: 0 > 3; grant 9 5: 0 > 3
            told 0 3: 2 > 1; told 2 3: 1 > 0; count 3: 5 > 3
            holder 4 93: 0 > -1
            """, holder(4, 2, -1, 50, 70));
        change("zone 6 on = 0", "closed 6: no > yes");
        change("zone 8 off = 0", "closed 8: yes > no");
        change("zone 2 on = 2; zone 2 off = 0", "closed 2: yes > no");
        change("await 3 1 = 0; pull 0 = 1; zone 1 on = 1", """
            closed 1: no > yes
            grant 2 5: 0 > 3
            told 0 3: 2 > 1; count 3: 5 > 4
            """, holder(1, 0, -1, 50, 70));
        change("await 3 1 = 0; pull 0 = 1; zone 1 on = 1; zone 1 off = 0", "closed 1: yes > no");
    }

    private static void halts() {
        change("halt 0 on = 2", """
            grant 2 5: 0 > 2; grant 9 5: 0 > 2
            told 0 2: 3 > -1; told 0 3: 2 > 0; told 0 4: 0 > 1
            count 3: 5 > 3; count 5: 3 > 2
            next 3: 0 > -1
            holder 4 93: 0 > -1
            """);
        change("halt 1 on = 2", """
            grant 3 5: 0 > 2; grant 5 5: 0 > 2
            told 1 2: 5 > -1; told 1 3: 2 > 0; told 1 4: 0 > 1
            count 3: 5 > 3; count 5: 3 > 2
            next 5: 1 > 3
            """, holder(2, 1, -1, 50, 70));
        change("halt 2 on = 1", "grant 4 5: 0 > 2; told 2 3: 1 > 0; told 2 4: 0 > 1; count 3: 5 > 4",
            holder(4, 2, -1, 50, 70));
        change("pass 34 = 0; halt 2 on = 1", "grant 4 5: 0 > 2; told 2 3: 1 > 0; told 2 4: 0 > 1; count 3: 5 > 4",
            holder(4, 2, -1, 50, 70));
        change("halt 3 off = 0", "told 3 4: 1 > 0");
        change("pass 34 = 0; halt 3 off = 0", "told 3 4: 1 > 0");
    }

    private static void reports() {
        change("report 0 = false", "told 0 6: 3 > 10");
        change("report 3 = false", "told 3 6: 3 > 10");
        change("pass 33 = 0; report 1 = false", "told 1 6: 3 > 33");
        change("pass 34 = 0; report 2 = true", "told 2 5: 1 > 0; told 2 6: 3 > 34");
        change("pass 34 = 0; report 3 = true", "told 3 5: 1 > 0; told 3 6: 3 > 34");
        change("report 0 = false; report 0 = false");
    }

    private static void passes() {
        change("pass 10 = 0");
        change("pass 20 = 0", "count 4: 10 > 20");
        change("pass 33 = 0", "count 4: 10 > 33");
        change("pass 34 = 0", "count 4: 10 > 34; told 0 5: 0 > 1; told 1 5: 0 > 1; told 2 5: 0 > 1; told 3 5: 0 > 1");
        change("ask 0 6 10 20 1 = 10; ask 0 1 15 20 1 = 11; pass 19 = 0", "count 4: 10 > 19");
        change("ask 0 6 10 20 1 = 10; ask 0 1 15 20 1 = 11; pass 20 = 2", """
            count 4: 10 > 20; count 3: 7 > 5; count 6: 1 > 0
            told 0 3: 4 > 2
            grant 10 5: 0 > 4; grant 11 5: 0 > 4
            """);
    }
}
