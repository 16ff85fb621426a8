import java.util.ArrayList;
import java.util.HashMap;
import java.util.HashSet;
import java.util.List;
import java.util.Map;
import java.util.NoSuchElementException;
import java.util.Set;
import java.util.TreeMap;
import java.util.stream.Collectors;
import java.util.stream.IntStream;
import java.util.stream.Stream;

/**
 * The document once more, written as sets and lists of times rather than as rows, so that a slip in
 * one of the two programs is seen.
 */
final class PlainModel {
    private static final class Robot {
        final int number;
        final boolean tailed;
        /** The pieces it stands on, its own one last. */
        List<Integer> pieces;
        Integer wanted = null;
        boolean halted = false;
        int heard;

        Robot(int number, int piece, boolean tailed, int now) {
            this.number = number;
            this.tailed = tailed;
            this.pieces = List.of(piece);
            this.heard = now;
        }

        int own() {
            return pieces.get(pieces.size() - 1);
        }
    }

    private static final class Grant {
        final int number;
        final Robot robot;
        final int piece;
        final int from;
        final int to;
        final Set<Integer> times;
        final int priority;
        String state = "live";

        Grant(int number, Robot robot, int piece, int from, int to, int priority) {
            this.number = number;
            this.robot = robot;
            this.piece = piece;
            this.from = from;
            this.to = to;
            this.times = IntStream.range(from, to).boxed().collect(Collectors.toSet());
            this.priority = priority;
        }

        boolean live() {
            return state.equals("live");
        }
    }

    private int now = 0;
    private final List<Boolean> closed = new ArrayList<>();
    private final Set<Set<Integer>> links = new HashSet<>();
    private final Map<Integer, Robot> robots = new TreeMap<>();
    private final Map<Integer, Grant> grants = new TreeMap<>();

    int piece() {
        refuse(closed.size() == 16, new UnsupportedOperationException());
        closed.add(false);
        return closed.size() - 1;
    }

    int link(int piece, int other, boolean on) {
        known(piece);
        known(other);
        refuse(piece == other, new IllegalArgumentException());
        if (on) {
            links.add(Set.of(piece, other));
        } else {
            links.remove(Set.of(piece, other));
        }
        return (int) links.stream().filter(pair -> pair.contains(piece)).count();
    }

    int robot(int piece, boolean tail) {
        known(piece);
        refuse(closed.get(piece) || standing(piece) != null, new IllegalStateException());
        refuse(robots.size() == 6, new UnsupportedOperationException());
        Robot robot = new Robot(robots.size(), piece, tail, now);
        robots.put(robot.number, robot);
        return robot.number;
    }

    int ask(int number, int piece, int from, int to, int priority) {
        Robot robot = aRobot(number);
        known(piece);
        refuse(from < now, new IllegalArgumentException());
        refuse(to <= from, new IllegalArgumentException());
        refuse(to > now + 100, new IllegalArgumentException());
        refuse(priority < 1 || priority > 9, new IllegalArgumentException());
        refuse(robot.halted || silent(robot), new IllegalStateException());
        refuse(grants.size() == 60, new UnsupportedOperationException());
        robot.heard = now;
        if (closed.get(piece) || another(robot, piece)) {
            return 0;
        }
        Grant asked = new Grant(grants.size() + 1, robot, piece, from, to, priority);
        List<Grant> rivals = live().filter(g -> g.robot != robot && common(g, asked)).collect(Collectors.toList());
        for (Grant rival : rivals) {
            if (!(rival.priority < priority && rival.from > now)) {
                return -rival.number;
            }
        }
        rivals.forEach(rival -> rival.state = "taken");
        grants.put(asked.number, asked);
        return asked.number;
    }

    int free(int number) {
        Grant grant = aGrant(number);
        refuse(!grant.live(), new IllegalStateException());
        grant.state = "freed";
        return told(grant.robot.number, 3);
    }

    boolean meets(int number, int other) {
        return common(aGrant(number), aGrant(other));
    }

    int step(int number, int piece) {
        Robot robot = aRobot(number);
        known(piece);
        refuse(robot.own() == piece || !links.contains(Set.of(robot.own(), piece)), new IllegalArgumentException());
        refuse(robot.halted || silent(robot), new IllegalStateException());
        robot.heard = now;
        Grant first = live()
            .filter(g -> g.robot == robot && g.piece == piece && g.times.contains(now))
            .findFirst().orElse(null);
        if (first == null) {
            return 0;
        }
        if (another(robot, piece)) {
            return -1;
        }
        first.state = "used";
        robot.pieces = robot.tailed ? List.of(robot.own(), piece) : List.of(piece);
        robot.wanted = null;
        return first.number;
    }

    int pull(int number) {
        Robot robot = aRobot(number);
        refuse(robot.pieces.size() == 1, new IllegalStateException());
        int left = robot.pieces.get(0);
        robot.pieces = List.of(robot.own());
        robot.heard = now;
        return left;
    }

    int await(int number, int piece) {
        Robot robot = aRobot(number);
        known(piece);
        refuse(!another(robot, piece), new IllegalStateException());
        List<Robot> row = new ArrayList<>();
        Robot last = robot;
        Integer wanted = piece;
        while (last != null && !row.contains(last)) {
            row.add(last);
            last = wanted == null ? null : standing(wanted);
            wanted = last == null ? null : last.wanted;
        }
        if (last == robot) {
            return -row.size();
        }
        robot.wanted = piece;
        return 0;
    }

    int next(int piece) {
        known(piece);
        Map<Robot, Integer> priorities = new HashMap<>();
        robots.values().stream().filter(r -> waitsFor(r, piece)).forEach(r -> priorities.put(r, 0));
        live().filter(g -> g.piece == piece && priorities.containsKey(g.robot))
            .forEach(g -> priorities.merge(g.robot, g.priority, Integer::max));
        return priorities.keySet().stream()
            .sorted((a, b) -> a.number - b.number)
            .reduce((a, b) -> priorities.get(b) > priorities.get(a) ? b : a)
            .map(r -> r.number).orElse(-1);
    }

    int zone(int piece, boolean on) {
        known(piece);
        refuse(closed.get(piece) == on || standing(piece) != null, new IllegalStateException());
        closed.set(piece, on);
        return on ? end(live().filter(g -> g.piece == piece), "taken") : 0;
    }

    int halt(int number, boolean on) {
        Robot robot = aRobot(number);
        refuse(robot.halted == on, new IllegalStateException());
        robot.halted = on;
        if (on) {
            robot.wanted = null;
        }
        return on ? end(live().filter(g -> g.robot == robot), "freed") : 0;
    }

    boolean report(int number) {
        Robot robot = aRobot(number);
        boolean was = silent(robot);
        robot.heard = now;
        return was;
    }

    int pass(int time) {
        refuse(time < now || time > 10000, new IllegalArgumentException());
        now = time;
        return end(live().filter(g -> now >= g.to), "over");
    }

    int holder(int piece, int time) {
        known(piece);
        refuse(time < now, new IllegalArgumentException());
        if (standing(piece) != null) {
            return standing(piece).number;
        }
        return live().filter(g -> g.piece == piece && g.times.contains(time))
            .findFirst().map(g -> g.robot.number).orElse(-1);
    }

    int told(int number, int what) {
        Robot robot = aRobot(number);
        refuse(what < 0 || what > 6, new IllegalArgumentException());
        return new int[] {
            robot.own(),
            robot.pieces.size() == 2 ? robot.pieces.get(0) : -1,
            robot.wanted == null ? -1 : robot.wanted,
            (int) live().filter(g -> g.robot == robot).count(),
            robot.halted ? 1 : 0,
            silent(robot) ? 1 : 0,
            robot.heard
        }[what];
    }

    int grant(int number, int what) {
        Grant grant = aGrant(number);
        refuse(what < 0 || what > 5, new IllegalArgumentException());
        int state = List.of("live", "used", "freed", "taken", "over").indexOf(grant.state);
        return new int[] {grant.robot.number, grant.piece, grant.from, grant.to, grant.priority, state}[what];
    }

    int count(int what) {
        if (what < 0 || what > 6) {
            return -1;
        }
        long meeting = live().flatMap(a -> live().filter(b -> a != b && common(a, b))).count();
        long waiting = robots.values().stream().filter(r -> r.wanted != null).count();
        return new int[] {
            closed.size(), robots.size(), grants.size(), (int) live().count(), now, (int) waiting, (int) meeting / 2
        }[what];
    }

    private static void refuse(boolean holds, RuntimeException refusal) {
        if (holds) {
            throw refusal;
        }
    }

    private void known(int piece) {
        refuse(!IntStream.range(0, closed.size()).anyMatch(p -> p == piece), new NoSuchElementException());
    }

    private Robot aRobot(int number) {
        refuse(!robots.containsKey(number), new NoSuchElementException());
        return robots.get(number);
    }

    private Grant aGrant(int number) {
        refuse(!grants.containsKey(number), new NoSuchElementException());
        return grants.get(number);
    }

    private Stream<Grant> live() {
        return grants.values().stream().filter(Grant::live);
    }

    private static int end(Stream<Grant> ended, String state) {
        List<Grant> all = ended.collect(Collectors.toList());
        all.forEach(g -> g.state = state);
        return all.size();
    }

    private static boolean common(Grant a, Grant b) {
        return a.piece == b.piece && a.times.stream().anyMatch(time -> b.times.contains(time));
    }

    private Robot standing(int piece) {
        return robots.values().stream().filter(r -> r.pieces.contains(piece)).findFirst().orElse(null);
    }

    private boolean another(Robot robot, int piece) {
        return robots.values().stream().anyMatch(r -> r != robot && r.pieces.contains(piece));
    }

    private static boolean waitsFor(Robot robot, int piece) {
        return robot.wanted != null && robot.wanted == piece;
    }

    private boolean silent(Robot robot) {
        return now > robot.heard + 30;
    }
}
