import java.util.ArrayList;
import java.util.LinkedHashMap;
import java.util.List;
import java.util.Map;

/**
 * All that can be known of an object that some calls were made on, by name. Links, closed pieces and who has a
 * tail are told by no call, so they are tried on further objects that the same calls were made on.
 */
final class Snapshot {
    /** Times for which the holders are looked at; no run that is looked at passes the first of them. */
    private static final int[] TIMES = {50, 70, 93};

    private final List<String> calls;
    private final Map<String, String> known = new LinkedHashMap<>();

    Snapshot(List<String> calls, int pieces, int robots, int grants) {
        this.calls = calls;
        ReserveSteps x = made();
        for (int what = 0; what <= 6; what++) {
            look(x, "count " + what);
        }
        for (int piece = 0; piece < pieces; piece++) {
            lookAtPiece(x, piece, pieces);
        }
        for (int robot = 0; robot < robots; robot++) {
            for (int what = 0; what <= 6; what++) {
                look(x, "told " + robot + " " + what);
            }
            known.put("tailed " + robot, tailed(robot));
        }
        for (int grant = 1; grant <= grants; grant++) {
            for (int what = 0; what <= 5; what++) {
                look(x, "grant " + grant + " " + what);
            }
        }
    }

    /** What differs in a later snapshot of as many things, each as "name: before > after". */
    List<String> changesTo(Snapshot later) {
        List<String> changes = new ArrayList<>();
        known.forEach((name, before) -> {
            String after = later.known.get(name);
            if (!before.equals(after)) {
                changes.add(name + ": " + before + " > " + after);
            }
        });
        return changes;
    }

    private ReserveSteps made() {
        ReserveSteps x = new ReserveSteps();
        calls.forEach(call -> Calls.answer(x, call));
        return x;
    }

    private void look(ReserveSteps x, String call) {
        String answer = Calls.answer(x, call);
        known.put(call, answer.startsWith("throws.") ? "none" : answer);
    }

    private void lookAtPiece(ReserveSteps x, int piece, int pieces) {
        look(x, "next " + piece);
        for (int time : TIMES) {
            look(x, "holder " + piece + " " + time);
        }
        known.put("closed " + piece, Calls.answer(made(), "zone " + piece + " off").equals("0") ? "yes" : "no");
        for (int other = 0; other < pieces; other++) {
            if (piece != other) {
                known.put("linked " + piece + " " + other, linked(x.count(0), piece, other));
            }
        }
    }

    /** Whether two pieces are linked, which is seen when all other links of the first one are undone. */
    private String linked(int there, int piece, int other) {
        ReserveSteps x = made();
        String left = "0";
        for (int third = 0; third < there; third++) {
            if (third != piece && third != other) {
                left = Calls.answer(x, "link " + piece + " " + third + " off");
            }
        }
        return left.equals("1") ? "yes" : "no";
    }

    /** Whether a robot has a tail, which is seen by its step onto a new piece. */
    private String tailed(int robot) {
        ReserveSteps x = made();
        if (robot >= x.count(1)) {
            return "none";
        }
        int own = x.told(robot, 0);
        int now = x.count(4);
        Calls.answer(x, "halt " + robot + " off");
        x.report(robot);
        int piece = x.piece();
        x.link(own, piece, true);
        x.ask(robot, piece, now, now + 1, 1);
        x.step(robot, piece);
        return x.told(robot, 1) == own ? "yes" : "no";
    }
}
