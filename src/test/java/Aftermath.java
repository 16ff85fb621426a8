import java.util.ArrayList;
import java.util.List;

/**
 * Whether two rows of calls leave their objects alike for every later call. Much of the state (links, zones,
 * who has a tail) is told by no call alone, so calls that change it are made, too. Each set of calls is made on
 * new objects, and is short: an object is good for 512 calls.
 */
final class Aftermath {
    private static final int MOST_PIECES = 16;
    private static final int MOST_ROBOTS = 6;

    private Aftermath() {
    }

    /** The first later call that answers otherwise, or an empty text. */
    static String firstDifference(List<String> calls, List<String> otherCalls) {
        ReserveSteps seen = made(otherCalls);
        List<List<String>> probes = List.of(robotsAndPieces(seen), grants(seen, 1, 30), grants(seen, 31, 60),
            links(seen, true), links(seen, false), zones(seen), room(seen), stepsByGrants(seen), steps(seen), asks(seen));
        for (List<String> probe : probes) {
            ReserveSteps x = made(calls);
            ReserveSteps other = made(otherCalls);
            int most = Math.min(probe.size(), Runs.MOST_CALLS - calls.size());
            for (String call : probe.subList(0, Math.max(0, most))) {
                String got = Calls.answer(x, call);
                String due = Calls.answer(other, call);
                if (!got.equals(due)) {
                    return call + " answers " + got + ", not " + due;
                }
            }
        }
        return "";
    }

    private static ReserveSteps made(List<String> calls) {
        ReserveSteps x = new ReserveSteps();
        calls.forEach(call -> Calls.answer(x, call));
        return x;
    }

    private static List<String> robotsAndPieces(ReserveSteps x) {
        List<String> probe = new ArrayList<>();
        for (int what = 0; what <= 6; what++) {
            probe.add("count " + what);
        }
        for (int robot = 0; robot < x.count(1); robot++) {
            for (int what = 0; what <= 6; what++) {
                probe.add("told " + robot + " " + what);
            }
        }
        for (int piece = 0; piece < x.count(0); piece++) {
            probe.add("next " + piece);
            for (int behind : new int[] {0, 1, 5, 50, 99, 100}) {
                probe.add("holder " + piece + " " + (x.count(4) + behind));
            }
        }
        return probe;
    }

    private static List<String> grants(ReserveSteps x, int first, int last) {
        List<String> probe = new ArrayList<>();
        for (int grant = first; grant <= Math.min(last, x.count(2)); grant++) {
            for (int what = 0; what <= 5; what++) {
                probe.add("grant " + grant + " " + what);
            }
        }
        return probe;
    }

    /** Each answer is a count for the first piece alone, so the links are undone from both their ends. */
    private static List<String> links(ReserveSteps x, boolean lowerFirst) {
        List<String> probe = new ArrayList<>();
        for (int piece = 0; piece < x.count(0); piece++) {
            for (int other = 0; other < x.count(0); other++) {
                if (piece < other == lowerFirst && piece != other) {
                    probe.add("link " + piece + " " + other + " off");
                }
            }
        }
        return probe;
    }

    private static List<String> zones(ReserveSteps x) {
        List<String> probe = new ArrayList<>();
        for (int piece = 0; piece < x.count(0); piece++) {
            probe.add("zone " + piece + " on");
            probe.add("zone " + piece + " off");
        }
        return probe;
    }

    private static List<String> room(ReserveSteps x) {
        List<String> probe = new ArrayList<>();
        for (int piece = 0; piece < x.count(0); piece++) {
            probe.add("robot " + piece + " off");
        }
        for (int more = 0; more <= MOST_PIECES; more++) {
            probe.add("piece");
        }
        for (int more = 0; more <= MOST_ROBOTS; more++) {
            probe.add("robot " + (MOST_PIECES - 1 - more) + " on");
        }
        return probe;
    }

    /** Steps by the grants that are there: without room for a grant no others can be made. */
    private static List<String> stepsByGrants(ReserveSteps x) {
        List<String> probe = new ArrayList<>();
        for (int grant = 1; grant <= x.count(2); grant++) {
            int robot = x.grant(grant, 0);
            int piece = x.grant(grant, 1);
            String step = "step " + robot + " " + piece;
            if (x.grant(grant, 5) == 0 && !probe.contains(step)) {
                probe.add("report " + robot);
                probe.add("link " + x.told(robot, 0) + " " + piece + " on");
                probe.add(step);
                probe.add("told " + robot + " 1");
                probe.add("pull " + robot);
            }
        }
        return probe;
    }

    /** Each robot steps onto an empty piece, if there may be one: only then its tail, if it has one, is seen. */
    private static List<String> steps(ReserveSteps x) {
        List<String> probe = new ArrayList<>();
        int empty = emptyPiece(x);
        for (int robot = 0; robot < x.count(1); robot++) {
            int own = x.told(robot, 0);
            probe.add("report " + robot);
            probe.add("halt " + robot + " off");
            probe.add(empty == x.count(0) ? "piece" : "zone " + empty + " off");
            probe.add("link " + own + " " + empty + " on");
            probe.add("ask " + robot + " " + empty + " " + x.count(4) + " " + (x.count(4) + 1) + " 9");
            probe.add("step " + robot + " " + empty);
            probe.add("told " + robot + " 1");
            probe.add("pull " + robot);
            probe.add("link " + own + " " + empty + " on");
            probe.add("ask " + robot + " " + own + " " + x.count(4) + " " + (x.count(4) + 1) + " 9");
            probe.add("step " + robot + " " + own);
            probe.add("pull " + robot);
        }
        return probe;
    }

    private static int emptyPiece(ReserveSteps x) {
        for (int piece = x.count(0) - 1; piece >= 0 && x.count(0) == MOST_PIECES; piece--) {
            if (x.holder(piece, x.count(4)) == -1) {
                return piece;
            }
        }
        return Math.min(x.count(0), MOST_PIECES - 1);
    }

    private static List<String> asks(ReserveSteps x) {
        List<String> probe = new ArrayList<>();
        for (int robot = 0; robot < x.count(1); robot++) {
            probe.add("report " + robot);
            for (int piece = 0; piece < x.count(0); piece++) {
                probe.add("ask " + robot + " " + piece + " " + (x.count(4) + 1) + " " + (x.count(4) + 100) + " 9");
                probe.add("await " + robot + " " + piece);
            }
        }
        return probe;
    }
}
