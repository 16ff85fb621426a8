import java.util.NoSuchElementException;

/**
 * Reservations of pieces for robots: grants of a piece for a span of time, steps from piece to
 * piece under grants, tails, waits without rings, people's zones and silent robots.
 */
public final class ReserveSteps {
    private static final int MAX_PIECES = 16;
    private static final int MAX_ROBOTS = 6;
    private static final int MAX_GRANTS = 60;
    private static final int LAST_TIME = 10000;
    private static final int FARTHEST_END = 100;
    private static final int LEAST_PRIORITY = 1;
    private static final int GREATEST_PRIORITY = 9;
    private static final int QUIET_ALLOWED = 30;
    private static final int NONE = -1;

    private static final int LIVE = 0;
    private static final int USED = 1;
    private static final int FREED = 2;
    private static final int TAKEN = 3;
    private static final int OVER = 4;

    private int now;
    private int pieceCount;
    /** For each piece the set of pieces linked with it: bit p stands for piece p. */
    private final int[] links;
    private final boolean[] closed;
    private final Robots robots;
    private final Grants grants;

    public ReserveSteps() {
        now = 0;
        pieceCount = 0;
        links = new int[MAX_PIECES];
        closed = new boolean[MAX_PIECES];
        robots = new Robots();
        grants = new Grants();
    }

    public int piece() throws UnsupportedOperationException {
        if (pieceCount >= MAX_PIECES) {
            throw new UnsupportedOperationException("no room for a piece");
        }
        pieceCount++;
        return pieceCount - 1;
    }

    public int link(int piece, int other, boolean on) throws NoSuchElementException, IllegalArgumentException {
        needPiece(piece);
        needPiece(other);
        if (piece == other) {
            throw new IllegalArgumentException("a piece is not linked with itself");
        }
        if (on) {
            links[piece] |= 1 << other;
            links[other] |= 1 << piece;
        } else {
            links[piece] &= ~(1 << other);
            links[other] &= ~(1 << piece);
        }
        return Integer.bitCount(links[piece]);
    }

    public int robot(int piece, boolean tail) throws NoSuchElementException, IllegalStateException, UnsupportedOperationException {
        needPiece(piece);
        if (closed[piece] || robots.standingOn(piece) != NONE) {
            throw new IllegalStateException("the piece is closed or a robot stands on it");
        }
        if (robots.size >= MAX_ROBOTS) {
            throw new UnsupportedOperationException("no room for a robot");
        }
        return robots.add(piece, tail, now);
    }

    public int ask(int robot, int piece, int from, int to, int priority)
            throws NoSuchElementException, IllegalArgumentException, IllegalStateException, UnsupportedOperationException {
        needRobot(robot);
        needPiece(piece);
        needSpan(from, to);
        needPriority(priority);
        needActive(robot);
        if (grants.size >= MAX_GRANTS) {
            throw new UnsupportedOperationException("no room for a grant");
        }
        robots.reported[robot] = now;
        if (closed[piece] || robots.otherStandsOn(robot, piece)) {
            return 0;
        }
        int bar = firstBar(robot, piece, from, to, priority);
        if (bar != 0) {
            return -bar;
        }
        grants.takeFromOthers(robot, piece, from, to);
        return grants.add(robot, piece, from, to, priority);
    }

    public int free(int grant) throws NoSuchElementException, IllegalStateException {
        needGrant(grant);
        if (!grants.isLive(grant)) {
            throw new IllegalStateException("the grant is not live");
        }
        grants.state[grant] = FREED;
        return grants.liveOf(grants.robot[grant]);
    }

    public boolean meets(int grant, int other) throws NoSuchElementException {
        needGrant(grant);
        needGrant(other);
        return grants.areMeeting(grant, other);
    }

    public int step(int robot, int piece) throws NoSuchElementException, IllegalArgumentException, IllegalStateException {
        needRobot(robot);
        needPiece(piece);
        if (!areLinked(piece, robots.piece[robot])) {
            throw new IllegalArgumentException("the pieces are not linked");
        }
        needActive(robot);
        robots.reported[robot] = now;
        int grant = grants.firstBegun(robot, piece, now);
        if (grant == 0) {
            return 0;
        }
        if (robots.otherStandsOn(robot, piece)) {
            return -1;
        }
        grants.state[grant] = USED;
        robots.moveTo(robot, piece);
        return grant;
    }

    public int pull(int robot) throws NoSuchElementException, IllegalStateException {
        needRobot(robot);
        int left = robots.tailPiece[robot];
        if (left == NONE) {
            throw new IllegalStateException("the robot stands on its own piece alone");
        }
        robots.tailPiece[robot] = NONE;
        robots.reported[robot] = now;
        return left;
    }

    public int await(int robot, int piece) throws NoSuchElementException, IllegalStateException {
        needRobot(robot);
        needPiece(piece);
        if (!robots.otherStandsOn(robot, piece)) {
            throw new IllegalStateException("no other robot stands on the piece");
        }
        int ring = robots.ringByWaiting(robot, piece);
        if (ring == 0) {
            robots.waitsFor[robot] = piece;
        }
        return -ring;
    }

    public int next(int piece) throws NoSuchElementException {
        needPiece(piece);
        int best = NONE;
        int bestPriority = NONE;
        for (int robot = 0; robot < robots.size; robot++) {
            if (robots.waitsFor[robot] == piece) {
                int priority = grants.greatestPriority(robot, piece);
                if (priority > bestPriority) {
                    best = robot;
                    bestPriority = priority;
                }
            }
        }
        return best;
    }

    public int zone(int piece, boolean on) throws NoSuchElementException, IllegalStateException {
        needPiece(piece);
        if (closed[piece] == on || robots.standingOn(piece) != NONE) {
            throw new IllegalStateException("the zone is so already, or a robot stands on the piece");
        }
        closed[piece] = on;
        return on ? grants.takeAllFor(piece) : 0;
    }

    public int halt(int robot, boolean on) throws NoSuchElementException, IllegalStateException {
        needRobot(robot);
        if (robots.halted[robot] == on) {
            throw new IllegalStateException("the robot is so already");
        }
        robots.halted[robot] = on;
        if (!on) {
            return 0;
        }
        robots.waitsFor[robot] = NONE;
        return grants.freeAllOf(robot);
    }

    public boolean report(int robot) throws NoSuchElementException {
        needRobot(robot);
        boolean wasSilent = robots.isSilent(robot, now);
        robots.reported[robot] = now;
        return wasSilent;
    }

    public int pass(int time) throws IllegalArgumentException {
        if (time < now || time > LAST_TIME) {
            throw new IllegalArgumentException("the time is before now or above the last one");
        }
        now = time;
        return grants.endAllBy(time);
    }

    public int holder(int piece, int time) throws NoSuchElementException, IllegalArgumentException {
        needPiece(piece);
        if (time < now) {
            throw new IllegalArgumentException("the time is before now");
        }
        int standing = robots.standingOn(piece);
        return standing != NONE ? standing : grants.robotGranted(piece, time);
    }

    public int told(int robot, int what) throws NoSuchElementException, IllegalArgumentException {
        needRobot(robot);
        switch (what) {
            case 0: return robots.piece[robot];
            case 1: return robots.tailPiece[robot];
            case 2: return robots.waitsFor[robot];
            case 3: return grants.liveOf(robot);
            case 4: return robots.halted[robot] ? 1 : 0;
            case 5: return robots.isSilent(robot, now) ? 1 : 0;
            case 6: return robots.reported[robot];
            default: throw new IllegalArgumentException("nothing is told of a robot by this number");
        }
    }

    public int grant(int grant, int what) throws NoSuchElementException, IllegalArgumentException {
        needGrant(grant);
        switch (what) {
            case 0: return grants.robot[grant];
            case 1: return grants.piece[grant];
            case 2: return grants.from[grant];
            case 3: return grants.to[grant];
            case 4: return grants.priority[grant];
            case 5: return grants.state[grant];
            default: throw new IllegalArgumentException("nothing is told of a grant by this number");
        }
    }

    public int count(int what) {
        switch (what) {
            case 0: return pieceCount;
            case 1: return robots.size;
            case 2: return grants.size;
            case 3: return grants.allLive();
            case 4: return now;
            case 5: return robots.allWaiting();
            case 6: return grants.livePairsMeeting();
            default: return -1;
        }
    }

    private void needPiece(int piece) {
        if (piece < 0 || piece >= pieceCount) {
            throw new NoSuchElementException("no such piece");
        }
    }

    private void needRobot(int robot) {
        if (robot < 0 || robot >= robots.size) {
            throw new NoSuchElementException("no such robot");
        }
    }

    private void needGrant(int grant) {
        if (grant < 1 || grant > grants.size) {
            throw new NoSuchElementException("no such grant");
        }
    }

    private void needSpan(int from, int to) {
        if (from < now || to <= from || to > now + FARTHEST_END) {
            throw new IllegalArgumentException("the span begins before now, is empty or ends too late");
        }
    }

    private void needPriority(int priority) {
        if (priority < LEAST_PRIORITY || priority > GREATEST_PRIORITY) {
            throw new IllegalArgumentException("there is no such priority");
        }
    }

    private void needActive(int robot) {
        if (robots.halted[robot] || robots.isSilent(robot, now)) {
            throw new IllegalStateException("the robot is halted or silent");
        }
    }

    private boolean areLinked(int piece, int other) {
        return (links[piece] >> other & 1) == 1;
    }

    /** The first grant that bars an ask, or 0. */
    private int firstBar(int robot, int piece, int from, int to, int priority) {
        for (int grant = 1; grant <= grants.size; grant++) {
            boolean givesWay = grants.priority[grant] < priority && !grants.hasBegun(grant, now);
            if (!givesWay && grants.isRival(grant, robot, piece, from, to)) {
                return grant;
            }
        }
        return 0;
    }

    /** All robots; what is known of robot r stands at index r of each row. */
    private static final class Robots {
        int size = 0;
        final int[] piece = new int[MAX_ROBOTS];
        final boolean[] hasTail = new boolean[MAX_ROBOTS];
        final int[] tailPiece = new int[MAX_ROBOTS];
        final int[] waitsFor = new int[MAX_ROBOTS];
        final boolean[] halted = new boolean[MAX_ROBOTS];
        final int[] reported = new int[MAX_ROBOTS];

        int add(int onPiece, boolean withTail, int now) {
            int robot = size;
            piece[robot] = onPiece;
            hasTail[robot] = withTail;
            tailPiece[robot] = NONE;
            waitsFor[robot] = NONE;
            halted[robot] = false;
            reported[robot] = now;
            size++;
            return robot;
        }

        boolean isSilent(int robot, int now) {
            return now - reported[robot] > QUIET_ALLOWED;
        }

        /** The robot that stands on a piece, with its tail or without, or NONE. */
        int standingOn(int aPiece) {
            for (int robot = 0; robot < size; robot++) {
                if (piece[robot] == aPiece || tailPiece[robot] == aPiece) {
                    return robot;
                }
            }
            return NONE;
        }

        boolean otherStandsOn(int robot, int aPiece) {
            int standing = standingOn(aPiece);
            return standing != NONE && standing != robot;
        }

        void moveTo(int robot, int target) {
            tailPiece[robot] = hasTail[robot] ? piece[robot] : NONE;
            piece[robot] = target;
            waitsFor[robot] = NONE;
        }

        /** How many robots would be in the ring if this one waited for the piece; 0 if there would be none. */
        int ringByWaiting(int robot, int awaited) {
            int wanted = awaited;
            // A piece holds one robot and a robot waits for one piece, so the row never forks.
            for (int length = 1; length <= size && wanted != NONE; length++) {
                int standing = standingOn(wanted);
                if (standing == robot) {
                    return length;
                }
                wanted = standing == NONE ? NONE : waitsFor[standing];
            }
            return 0;
        }

        int allWaiting() {
            int waiting = 0;
            for (int robot = 0; robot < size; robot++) {
                if (waitsFor[robot] != NONE) {
                    waiting++;
                }
            }
            return waiting;
        }
    }

    /** All grants; what is known of grant g stands at index g of each row, and index 0 is not used. */
    private static final class Grants {
        int size = 0;
        final int[] robot = new int[MAX_GRANTS + 1];
        final int[] piece = new int[MAX_GRANTS + 1];
        final int[] from = new int[MAX_GRANTS + 1];
        final int[] to = new int[MAX_GRANTS + 1];
        final int[] priority = new int[MAX_GRANTS + 1];
        final int[] state = new int[MAX_GRANTS + 1];

        int add(int aRobot, int aPiece, int start, int end, int aPriority) {
            size++;
            robot[size] = aRobot;
            piece[size] = aPiece;
            from[size] = start;
            to[size] = end;
            priority[size] = aPriority;
            state[size] = LIVE;
            return size;
        }

        boolean isLive(int grant) {
            return state[grant] == LIVE;
        }

        boolean isLiveOf(int grant, int aRobot) {
            return isLive(grant) && robot[grant] == aRobot;
        }

        boolean isLiveFor(int grant, int aPiece) {
            return isLive(grant) && piece[grant] == aPiece;
        }

        boolean hasBegun(int grant, int now) {
            return from[grant] <= now;
        }

        boolean sharesTime(int grant, int start, int end) {
            return from[grant] < end && start < to[grant];
        }

        boolean areMeeting(int grant, int other) {
            return piece[grant] == piece[other] && sharesTime(grant, from[other], to[other]);
        }

        /** Whether a grant is a live one of another robot for the piece, with a time of the span in it. */
        boolean isRival(int grant, int aRobot, int aPiece, int start, int end) {
            return isLiveFor(grant, aPiece) && robot[grant] != aRobot && sharesTime(grant, start, end);
        }

        void takeFromOthers(int aRobot, int aPiece, int start, int end) {
            for (int grant = 1; grant <= size; grant++) {
                if (isRival(grant, aRobot, aPiece, start, end)) {
                    state[grant] = TAKEN;
                }
            }
        }

        int takeAllFor(int aPiece) {
            int taken = 0;
            for (int grant = 1; grant <= size; grant++) {
                if (isLiveFor(grant, aPiece)) {
                    state[grant] = TAKEN;
                    taken++;
                }
            }
            return taken;
        }

        int freeAllOf(int aRobot) {
            int freed = 0;
            for (int grant = 1; grant <= size; grant++) {
                if (isLiveOf(grant, aRobot)) {
                    state[grant] = FREED;
                    freed++;
                }
            }
            return freed;
        }

        int endAllBy(int time) {
            int ended = 0;
            for (int grant = 1; grant <= size; grant++) {
                if (isLive(grant) && to[grant] <= time) {
                    state[grant] = OVER;
                    ended++;
                }
            }
            return ended;
        }

        /** The first live grant of a robot for a piece that has begun, or 0. */
        int firstBegun(int aRobot, int aPiece, int now) {
            for (int grant = 1; grant <= size; grant++) {
                if (isLiveOf(grant, aRobot) && piece[grant] == aPiece && hasBegun(grant, now)) {
                    return grant;
                }
            }
            return 0;
        }

        /** The robot of the first live grant for a piece with the time in its span, or NONE. */
        int robotGranted(int aPiece, int time) {
            for (int grant = 1; grant <= size; grant++) {
                if (isLiveFor(grant, aPiece) && from[grant] <= time && time < to[grant]) {
                    return robot[grant];
                }
            }
            return NONE;
        }

        int greatestPriority(int aRobot, int aPiece) {
            int greatest = 0;
            for (int grant = 1; grant <= size; grant++) {
                if (isLiveOf(grant, aRobot) && piece[grant] == aPiece) {
                    greatest = Math.max(greatest, priority[grant]);
                }
            }
            return greatest;
        }

        int liveOf(int aRobot) {
            int live = 0;
            for (int grant = 1; grant <= size; grant++) {
                if (isLiveOf(grant, aRobot)) {
                    live++;
                }
            }
            return live;
        }

        int allLive() {
            int live = 0;
            for (int grant = 1; grant <= size; grant++) {
                if (isLive(grant)) {
                    live++;
                }
            }
            return live;
        }

        int livePairsMeeting() {
            int pairs = 0;
            for (int grant = 1; grant <= size; grant++) {
                for (int other = grant + 1; other <= size; other++) {
                    if (isLive(grant) && isLive(other) && areMeeting(grant, other)) {
                        pairs++;
                    }
                }
            }
            return pairs;
        }
    }
}
