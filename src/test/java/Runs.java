import java.util.ArrayList;
import java.util.List;

/**
 * Runs of calls, written as text, on new objects, with the answers that are due: "call = answer", or
 * "call ! refusal" with the refusal by its first letters (NSE, IAE, ISE, UOE). After each call that is to be
 * refused, Aftermath looks whether it changed anything that a later call shows.
 */
final class Runs {
    /** What the document promises of one object ends here. */
    static final int MOST_CALLS = 512;

    private int wrong = 0;

    void run(String title, String... blocks) {
        ReserveSteps x = new ReserveSteps();
        List<String> all = new ArrayList<>();
        List<String> notRefused = new ArrayList<>();
        for (String block : blocks) {
            for (String line : block.strip().split("\\s*[\n;]\\s*")) {
                boolean refused = line.contains("!");
                String[] sides = line.split(refused ? "!" : "=");
                String call = sides[0].strip();
                String due = refused ? "throws." + exception(sides[1].strip()) : sides[1].strip();
                all.add(call);
                check(title, call, Calls.answer(x, call), due);
                if (refused) {
                    checkUnchanged(title, call, all, notRefused);
                } else {
                    notRefused.add(call);
                }
            }
        }
        if (all.size() > MOST_CALLS) {
            throw new AssertionError("the run has more calls than the document promises: " + title);
        }
    }

    /** Says how the runs went, and ends the program with 1 if an answer was wrong. */
    void end() {
        System.out.println(wrong == 0 ? "all answers are as due" : wrong + " answers are not as due");
        if (wrong != 0) {
            System.exit(1);
        }
    }

    private void check(String title, String call, String got, String due) {
        if (!got.equals(due)) {
            wrong++;
            System.out.println(title + ": " + call + " answered " + got + ", due is " + due);
        }
    }

    private void checkUnchanged(String title, String call, List<String> all, List<String> notRefused) {
        String change = Aftermath.firstDifference(all, notRefused);
        if (!change.isEmpty()) {
            wrong++;
            System.out.println(title + ": " + call + " is refused, but changed something: " + change);
        }
    }

    private static String exception(String letters) {
        switch (letters) {
            case "NSE": return "NoSuchElementException";
            case "IAE": return "IllegalArgumentException";
            case "ISE": return "IllegalStateException";
            case "UOE": return "UnsupportedOperationException";
            default: throw new AssertionError("the test names no refusal: " + letters);
        }
    }

    /** Pieces 0 .. n - 1, no two of them linked. */
    static String pieces(int n) {
        StringBuilder lines = new StringBuilder();
        for (int piece = 0; piece < n; piece++) {
            lines.append("piece = ").append(piece).append('\n');
        }
        return lines.toString();
    }

    /** Pieces 0 .. n - 1, each linked with the next one. */
    static String row(int n) {
        StringBuilder lines = new StringBuilder(pieces(n));
        for (int piece = 1; piece < n; piece++) {
            lines.append("link ").append(piece).append(' ').append(piece - 1).append(" on = 1\n");
        }
        return lines.toString();
    }

    /** Robots 0 .. n - 1, each without a tail on the piece of its own number. */
    static String robots(int n) {
        StringBuilder lines = new StringBuilder();
        for (int robot = 0; robot < n; robot++) {
            lines.append("robot ").append(robot).append(" off = ").append(robot).append('\n');
        }
        return lines.toString();
    }

    /** Grants first .. last by one ask, written without its answer. */
    static String asks(int first, int last, String ask) {
        StringBuilder lines = new StringBuilder();
        for (int grant = first; grant <= last; grant++) {
            lines.append(ask).append(" = ").append(grant).append('\n');
        }
        return lines.toString();
    }
}
