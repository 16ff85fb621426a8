import java.util.ArrayList;
import java.util.List;
import java.util.Map;
import java.util.Random;
import java.util.TreeMap;

/** Random runs of calls, the same each time, on ReserveSteps and on PlainModel: all answers and states agree. */
public final class RandomRunsTest {
    private static final int RUNS = 400;
    private static final int CALLS = 512;
    private static final int STATES_EVERY = 100;
    private static final int[] WILD = {-1, -2, Integer.MIN_VALUE, Integer.MAX_VALUE, 10000, 10001, 101, 61, 60, 16, 10, 6, 0};
    /** So near the last time that a run comes to it. */
    private static final int LATE = 9960;
    private static final String[] MUST_BE_SEEN = {
        "piece throws.UnsupportedOperationException", "link throws.IllegalArgumentException",
        "robot throws.IllegalStateException", "robot throws.UnsupportedOperationException",
        "ask +", "ask 0", "ask -", "ask throws.IllegalArgumentException", "ask throws.IllegalStateException",
        "ask throws.UnsupportedOperationException", "free throws.IllegalStateException", "step +", "step 0", "step -",
        "step throws.IllegalArgumentException", "step throws.IllegalStateException", "pull +",
        "pull throws.IllegalStateException", "await 0", "await -", "await throws.IllegalStateException", "next +",
        "zone +", "zone throws.IllegalStateException", "halt +", "halt throws.IllegalStateException", "report true",
        "pass +", "pass throws.IllegalArgumentException", "holder +", "holder throws.IllegalArgumentException",
        "told throws.NoSuchElementException", "grant throws.NoSuchElementException"
    };

    private final Random random;
    private final PlainModel model = new PlainModel();
    private final ReserveSteps steps = new ReserveSteps();
    private final int piecesFirst;
    private final int robotsMost;
    /** Every fourth run asks so often that it comes to sixty grants. */
    private final boolean eager;
    private final boolean late;
    /** Of so many numbers one is any other. */
    private final int tameNumbers;

    private RandomRunsTest(int run) {
        random = new Random(run);
        piecesFirst = run % 10 == 0 ? 16 : 2 + random.nextInt(8);
        robotsMost = 1 + random.nextInt(8);
        eager = run % 4 == 0;
        late = run % 9 == 5;
        tameNumbers = run % 5 == 3 ? 6 : 50;
    }

    public static void main(String[] args) {
        Map<String, Integer> seen = new TreeMap<>();
        int wrong = 0;
        for (int run = 0; run < RUNS; run++) {
            wrong += new RandomRunsTest(run).runAll(run, seen) ? 0 : 1;
        }
        for (String kind : MUST_BE_SEEN) {
            if (!seen.containsKey(kind)) {
                wrong++;
                System.out.println("no run answered: " + kind);
            }
        }
        System.out.println(wrong == 0 ? "all runs are as due" : wrong + " runs are not as due");
        if (wrong != 0) {
            System.exit(1);
        }
    }

    private boolean runAll(int run, Map<String, Integer> seen) {
        List<String> calls = new ArrayList<>();
        for (int i = 0; i < CALLS; i++) {
            String call = i <= 2 * piecesFirst ? layOut(i) : anyCall();
            String due = Calls.answer(model, call);
            String got = Calls.answer(steps, call);
            calls.add(call + " = " + due);
            seen.merge(kind(call, due), 1, Integer::sum);
            if (!got.equals(due)) {
                System.out.println("run " + run + ": " + calls);
                System.out.println("run " + run + ": " + call + " answered " + got + ", due is " + due);
                return false;
            }
            boolean look = i % STATES_EVERY == 0 || i == CALLS - 1;
            if (look && !Calls.state(steps).equals(Calls.state(model))) {
                System.out.println("run " + run + ": another state after " + calls);
                return false;
            }
        }
        return true;
    }

    private static String kind(String call, String answer) {
        String name = call.split(" ")[0];
        if (answer.startsWith("t") || answer.startsWith("f") || answer.equals("0")) {
            return name + " " + answer;
        }
        return name + (answer.startsWith("-") ? " -" : " +");
    }

    /** Pieces in a row and the time, before the random calls: else most of them would be refused. */
    private String layOut(int i) {
        int piece = i - piecesFirst;
        if (piece == piecesFirst) {
            return "pass " + (late ? LATE : 0);
        }
        return piece < 1 ? "piece" : "link " + piece + " " + (piece - 1) + " on";
    }

    private String anyCall() {
        int now = model.count(4);
        switch (eager && random.nextInt(3) == 0 ? 3 : random.nextInt(26)) {
            case 0: return random.nextInt(12) == 0 ? "piece" : stepByGrant();
            case 1: return "link " + piece() + " " + piece() + (random.nextInt(4) > 0 ? " on" : " off");
            case 2: return model.count(1) < robotsMost ? "robot " + piece() + onOrOff() : stepByGrant();
            case 3: case 4: case 5: return ask(now);
            case 6: return "free " + grant();
            case 7: return "meets " + grant() + " " + grant();
            case 8: return "step " + robot() + " " + piece();
            case 9: case 10: case 11: return stepByGrant();
            case 12: return "pull " + robot();
            case 13: case 14: case 15: return "await " + robot() + " " + piece();
            case 16: return "next " + piece();
            case 17: return random.nextInt(2) == 0 ? "zone " + piece() + onOrOff() : "next " + piece();
            case 18: return "halt " + robot() + (random.nextInt(3) == 0 ? " on" : " off");
            case 19: case 20: return "report " + robot();
            case 21: return "pass " + maybeWild(now + random.nextInt(random.nextInt(6) == 0 ? 40 : 4) - 1);
            case 22: return "holder " + piece() + " " + maybeWild(now + random.nextInt(60) - 2);
            case 23: return "told " + robot() + " " + maybeWild(random.nextInt(7));
            case 24: return "grant " + grant() + " " + maybeWild(random.nextInt(6));
            default: return "count " + maybeWild(random.nextInt(7));
        }
    }

    private String ask(int now) {
        int from = now + (random.nextInt(3) == 0 ? random.nextInt(40) - 1 : random.nextInt(4));
        int to = random.nextInt(12) == 0 ? now + 98 + random.nextInt(5) : from + random.nextInt(20);
        int robot = robot();
        return "ask " + robot + " " + pieceBeside(robot) + " " + maybeWild(from) + " " + maybeWild(to)
            + " " + maybeWild(1 + random.nextInt(9));
    }

    /** A step that a grant may be there for: one by chance alone hardly ever has one. */
    private String stepByGrant() {
        int first = model.count(2) - random.nextInt(8);
        for (int grant = Math.max(1, first); grant <= model.count(2); grant++) {
            if (model.grant(grant, 5) == 0) {
                return "step " + model.grant(grant, 0) + " " + model.grant(grant, 1);
            }
        }
        return "step " + robot() + " " + piece();
    }

    private int pieceBeside(int robot) {
        if (robot < 0 || robot >= model.count(1) || random.nextInt(4) == 0) {
            return piece();
        }
        return model.told(robot, 0) + (random.nextBoolean() ? 1 : -1);
    }

    private String onOrOff() {
        return random.nextBoolean() ? " on" : " off";
    }

    private int piece() {
        return maybeWild(random.nextInt(Math.max(1, model.count(0))));
    }

    private int robot() {
        return maybeWild(random.nextInt(Math.max(1, model.count(1))));
    }

    private int grant() {
        return maybeWild(1 + random.nextInt(Math.max(1, model.count(2))));
    }

    private int maybeWild(int number) {
        if (random.nextInt(tameNumbers) != 0) {
            return number;
        }
        return random.nextInt(3) == 0 ? number + 1 - 2 * random.nextInt(2) : WILD[random.nextInt(WILD.length)];
    }
}
