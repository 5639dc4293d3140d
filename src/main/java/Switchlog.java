import java.util.NoSuchElementException;

/**
 * A switching desk for a substation. What each call promises stands in the document; sets of
 * nodes and of switches are ints here, with the bit of each number.
 */
public final class Switchlog {
    private static final int OPEN = 0;
    private static final int CLOSE = 1;
    private static final int EARTH_ON = 2;
    private static final int EARTH_OFF = 3;
    private static final int SOURCE_ON = 4;
    private static final int SOURCE_OFF = 5;

    private static final int ALLOWED = 0;
    private static final int ALREADY_SO = 1;
    private static final int TOUCHES_HELD = 2;
    private static final int INTERLOCKED = 3;
    private static final int ENDANGERS_HELD = 4;

    private static final int MOST_NODES = 16;
    private static final int MOST_SWITCHES = 24;
    private static final int MOST_DONE = 200;
    private static final int MOST_WRITTEN = 30;
    private static final int MOST_PERMITS = 10;

    /** An act is kept as one number, the one that logged() answers: 100 times its kind plus what. */
    private static final int KIND_STEP = 100;

    private final Net net;
    private final State now;
    private final ActRow done;
    private final ActRow written;
    private final Permits permits;

    // Made once and used again, because all calls of a run share one room for their objects.
    private final State thought;
    private final State after;

    public Switchlog() {
        net = new Net();
        now = new State();
        done = new ActRow(MOST_DONE);
        written = new ActRow(MOST_WRITTEN);
        permits = new Permits();
        thought = new State();
        after = new State();
    }

    // ---- what is built

    public int addNode(boolean source, boolean load) throws IllegalStateException {
        if (net.nodeCount() >= MOST_NODES) {
            throw new IllegalStateException("there are 16 nodes");
        }
        return net.appendNode(source, load);
    }

    public int addSwitch(int one, int other, boolean breaker)
            throws IndexOutOfBoundsException, IllegalArgumentException, IllegalStateException {
        requireNode(one);
        requireNode(other);
        if (one == other) {
            throw new IllegalArgumentException("both nodes are the same");
        }
        if (net.switchCount() >= MOST_SWITCHES) {
            throw new IllegalStateException("there are 24 switches");
        }
        return net.appendSwitch(one, other, breaker);
    }

    public int nodes() {
        return net.nodeCount();
    }

    public int switches() {
        return net.switchCount();
    }

    // ---- acts

    public int act(int kind, int what)
            throws IllegalArgumentException, IndexOutOfBoundsException, IllegalStateException {
        requireAct(kind, what);
        if (done.size() >= MOST_DONE) {
            throw new IllegalStateException("the log has 200 acts");
        }
        return doAndLog(actOf(kind, what));
    }

    public int reason(int kind, int what) throws IllegalArgumentException, IndexOutOfBoundsException {
        requireAct(kind, what);
        return reasonIn(now, kind, what);
    }

    public int takeBack() throws IllegalStateException {
        if (done.size() == 0) {
            throw new IllegalStateException("the log is empty");
        }
        int act = oppositeOf(done.latest(0));
        int why = reasonIn(now, kindOf(act), whatOf(act));
        if (why == ALLOWED) {
            now.flip(kindOf(act), whatOf(act));
            done.dropLast();
        }
        return why;
    }

    public int log() {
        return done.size();
    }

    public int logged(int index) throws IndexOutOfBoundsException {
        if (index < 0 || index >= done.size()) {
            throw new IndexOutOfBoundsException("no such act in the log");
        }
        return done.latest(index);
    }

    public int times(int kind, int what) throws IllegalArgumentException, IndexOutOfBoundsException {
        requireAct(kind, what);
        return done.count(actOf(kind, what));
    }

    // ---- sequences

    public int write(int kind, int what)
            throws IllegalArgumentException, IndexOutOfBoundsException, IllegalStateException {
        requireAct(kind, what);
        if (written.size() >= MOST_WRITTEN) {
            throw new IllegalStateException("the sequence has 30 acts");
        }
        written.append(actOf(kind, what));
        return written.size();
    }

    public int erase() {
        int had = written.size();
        written.dropFirst(had);
        return had;
    }

    public int check() {
        thought.copyFrom(now);
        for (int i = 0; i < written.size(); i++) {
            int act = written.get(i);
            if (reasonIn(thought, kindOf(act), whatOf(act)) != ALLOWED) {
                return i;
            }
            thought.flip(kindOf(act), whatOf(act));
        }
        return written.size();
    }

    public int carryOut(int acts) throws IllegalArgumentException, IllegalStateException {
        if (acts < 1 || acts > MOST_WRITTEN) {
            throw new IllegalArgumentException("acts is not 1 to 30");
        }
        int wanted = Math.min(acts, written.size());
        if (done.size() + wanted > MOST_DONE) {
            throw new IllegalStateException("the log would have more than 200 acts");
        }
        int carried = 0;
        while (carried < wanted && doAndLog(written.get(carried)) == ALLOWED) {
            carried++;
        }
        written.dropFirst(carried);
        return carried;
    }

    public int writeBack() {
        int wanted = Math.min(done.size(), MOST_WRITTEN);
        written.dropFirst(written.size());
        for (int i = 0; i < wanted; i++) {
            written.append(oppositeOf(done.latest(i)));
        }
        return wanted;
    }

    // ---- permits

    public int permit(int nodes) throws IllegalArgumentException, IllegalStateException {
        if (nodes == 0 || (nodes & ~net.allNodes()) != 0) {
            throw new IllegalArgumentException("no node, or one that there is not");
        }
        if (!canBeHeld(nodes)) {
            throw new IllegalStateException("a node is not earthed, live, or held already");
        }
        if (permits.given() >= MOST_PERMITS) {
            throw new IllegalStateException("10 permits were given");
        }
        return permits.give(nodes);
    }

    public int handBack(int permit) throws IndexOutOfBoundsException, IllegalStateException {
        if (permit < 0 || permit >= permits.given()) {
            throw new IndexOutOfBoundsException("no such permit was given");
        }
        if (!permits.isHeld(permit)) {
            throw new IllegalStateException("the permit was handed back");
        }
        permits.release(permit);
        return permits.countHeld();
    }

    public int held() {
        return permits.heldNodes();
    }

    // ---- what is

    public boolean isClosed(int which) throws IndexOutOfBoundsException {
        if (!net.hasSwitch(which)) {
            throw new IndexOutOfBoundsException("no such switch");
        }
        return now.isOn(CLOSE, which);
    }

    public int live() {
        return net.liveNodes(now);
    }

    public int loaded() {
        return net.loadedNodes(now);
    }

    public int earthed() {
        return net.earthedNodes(now);
    }

    public int part(int node) throws IndexOutOfBoundsException {
        requireNode(node);
        return net.connectedWith(1 << node, now);
    }

    public int parts() {
        return net.countParts(now);
    }

    public int toLive(int node) throws IndexOutOfBoundsException, NoSuchElementException {
        requireNode(node);
        int reached = net.connectedWith(1 << node, now);
        // A way passes each node once at most, so it has fewer switches than there are nodes.
        for (int steps = 0; steps < net.nodeCount(); steps++) {
            if ((reached & now.sources) != 0) {
                return steps;
            }
            reached = net.connectedWith(net.withNeighbours(reached), now);
        }
        throw new NoSuchElementException("no way leads to a source that is on");
    }

    // ---- what the calls share

    private void requireNode(int node) {
        if (!net.hasNode(node)) {
            throw new IndexOutOfBoundsException("no such node");
        }
    }

    private void requireAct(int kind, int what) {
        if (kind < OPEN || kind > SOURCE_OFF) {
            throw new IllegalArgumentException("kind is not 0 to 5");
        }
        if (isOfSwitch(kind) ? !net.hasSwitch(what) : !net.hasNode(what)) {
            throw new IndexOutOfBoundsException("no such switch or node");
        }
    }

    private int reasonIn(State before, int kind, int what) {
        if (isAlreadySo(before, kind, what)) {
            return ALREADY_SO;
        }
        if ((touchedNodes(kind, what) & permits.heldNodes()) != 0) {
            return TOUCHES_HELD;
        }
        after.copyFrom(before);
        after.flip(kind, what);
        if (isInterlocked(before, kind, what)) {
            return INTERLOCKED;
        }
        return areSafe(permits.heldNodes(), after) ? ALLOWED : ENDANGERS_HELD;
    }

    private boolean isAlreadySo(State before, int kind, int what) {
        boolean withoutSource = kind == SOURCE_ON && !net.hasSource(what);
        return withoutSource || before.isOn(kind, what) == turnsOn(kind);
    }

    private int touchedNodes(int kind, int what) {
        return isOfSwitch(kind) ? net.endsOf(what) : 1 << what;
    }

    private boolean isInterlocked(State before, int kind, int what) {
        switch (kind) {
            case OPEN:
                return breaksLoad(before, what);
            case CLOSE:
                return joinsLiveAndEarthed(before, what) || makesLoad(before, what);
            case EARTH_ON:
                return (net.liveNodes(before) >> what & 1) != 0;
            case SOURCE_ON:
                return (net.earthedNodes(before) >> what & 1) != 0;
            default:
                return false;
        }
    }

    private boolean breaksLoad(State before, int which) {
        return !net.isBreaker(which)
                && (net.loadedNodes(before) & net.endsOf(which)) != 0
                && !net.areEndsConnected(which, after);
    }

    private boolean makesLoad(State before, int which) {
        return !net.isBreaker(which)
                && !net.areEndsConnected(which, before)
                && (net.loadedNodes(after) & net.endsOf(which)) != 0;
    }

    /** No act makes a node both live and earthed, so the two ends found here are different ones. */
    private boolean joinsLiveAndEarthed(State before, int which) {
        int ends = net.endsOf(which);
        return (net.liveNodes(before) & ends) != 0 && (net.earthedNodes(before) & ends) != 0;
    }

    private boolean canBeHeld(int nodes) {
        return areSafe(nodes, now) && (nodes & permits.heldNodes()) == 0;
    }

    private boolean areSafe(int nodes, State state) {
        return (nodes & ~net.earthedNodes(state)) == 0 && (nodes & net.liveNodes(state)) == 0;
    }

    private int doAndLog(int act) {
        int why = reasonIn(now, kindOf(act), whatOf(act));
        if (why == ALLOWED) {
            now.flip(kindOf(act), whatOf(act));
            done.append(act);
        }
        return why;
    }

    private static boolean isOfSwitch(int kind) {
        return kind == OPEN || kind == CLOSE;
    }

    private static boolean turnsOn(int kind) {
        return kind == CLOSE || kind == EARTH_ON || kind == SOURCE_ON;
    }

    private static int actOf(int kind, int what) {
        return KIND_STEP * kind + what;
    }

    private static int kindOf(int act) {
        return act / KIND_STEP;
    }

    private static int whatOf(int act) {
        return act % KIND_STEP;
    }

    /** The kinds 0 and 1, 2 and 3, 4 and 5 differ in their last bit alone. */
    private static int oppositeOf(int act) {
        return actOf(kindOf(act) ^ 1, whatOf(act));
    }

    /** What acts can change: which switches are closed, which earths and which sources are on. */
    private static final class State {
        private int closed;
        private int earths;
        private int sources;

        void copyFrom(State other) {
            closed = other.closed;
            earths = other.earths;
            sources = other.sources;
        }

        /** Both acts of a pair of opposites turn the same bit. */
        void flip(int kind, int what) {
            int bit = 1 << what;
            switch (kind) {
                case OPEN:
                case CLOSE:
                    closed ^= bit;
                    break;
                case EARTH_ON:
                case EARTH_OFF:
                    earths ^= bit;
                    break;
                default:
                    sources ^= bit;
                    break;
            }
        }

        boolean isOn(int kind, int what) {
            switch (kind) {
                case OPEN:
                case CLOSE:
                    return (closed >> what & 1) != 0;
                case EARTH_ON:
                case EARTH_OFF:
                    return (earths >> what & 1) != 0;
                default:
                    return (sources >> what & 1) != 0;
            }
        }
    }

    /** What is built: it only grows, and no act changes it. */
    private static final class Net {
        private final int[] ends = new int[MOST_SWITCHES];
        private int nodeCount;
        private int switchCount;
        private int breakers;
        private int sources;
        private int loads;

        int nodeCount() {
            return nodeCount;
        }

        int switchCount() {
            return switchCount;
        }

        int allNodes() {
            return (1 << nodeCount) - 1;
        }

        boolean hasNode(int node) {
            return node >= 0 && node < nodeCount;
        }

        boolean hasSwitch(int which) {
            return which >= 0 && which < switchCount;
        }

        int appendNode(boolean source, boolean load) {
            int bit = 1 << nodeCount;
            sources |= source ? bit : 0;
            loads |= load ? bit : 0;
            return nodeCount++;
        }

        int appendSwitch(int one, int other, boolean breaker) {
            ends[switchCount] = 1 << one | 1 << other;
            breakers |= breaker ? 1 << switchCount : 0;
            return switchCount++;
        }

        boolean hasSource(int node) {
            return (sources >> node & 1) != 0;
        }

        boolean isBreaker(int which) {
            return (breakers >> which & 1) != 0;
        }

        int endsOf(int which) {
            return ends[which];
        }

        int liveNodes(State state) {
            return connectedWith(state.sources, state);
        }

        int earthedNodes(State state) {
            return connectedWith(state.earths, state);
        }

        int loadedNodes(State state) {
            return connectedWith(state.sources, state) & connectedWith(loads, state);
        }

        boolean areEndsConnected(int which, State state) {
            int both = ends[which];
            int one = both & -both;
            return (connectedWith(one, state) & both) == both;
        }

        int countParts(State state) {
            int left = allNodes();
            int count = 0;
            for (int node = 0; node < nodeCount; node++) {
                if ((left >> node & 1) != 0) {
                    left &= ~connectedWith(1 << node, state);
                    count++;
                }
            }
            return count;
        }

        int connectedWith(int some, State state) {
            int reached = some;
            // Each round but the last reaches a node more, so there are no more rounds than nodes.
            for (int round = 0; round < nodeCount; round++) {
                int had = reached;
                for (int which = 0; which < switchCount; which++) {
                    boolean closed = (state.closed >> which & 1) != 0;
                    reached |= closed && (ends[which] & reached) != 0 ? ends[which] : 0;
                }
                if (reached == had) {
                    break;
                }
            }
            return reached;
        }

        int withNeighbours(int some) {
            int reached = some;
            for (int which = 0; which < switchCount; which++) {
                reached |= (ends[which] & some) != 0 ? ends[which] : 0;
            }
            return reached;
        }
    }

    /** Acts in their order, in a row of a room that its users look at before they append. */
    private static final class ActRow {
        private final int[] acts;
        private int size;

        ActRow(int room) {
            acts = new int[room];
        }

        int size() {
            return size;
        }

        int get(int index) {
            return acts[index];
        }

        int latest(int index) {
            return acts[size - 1 - index];
        }

        void append(int act) {
            acts[size] = act;
            size++;
        }

        void dropLast() {
            size--;
        }

        void dropFirst(int count) {
            for (int i = count; i < size; i++) {
                acts[i - count] = acts[i];
            }
            size -= count;
        }

        int count(int act) {
            int found = 0;
            for (int i = 0; i < size; i++) {
                found += acts[i] == act ? 1 : 0;
            }
            return found;
        }
    }

    /** No nodes stand for a permit that was handed back, because none is given without nodes. */
    private static final class Permits {
        private final int[] holds = new int[MOST_PERMITS];
        private int given;

        int given() {
            return given;
        }

        int give(int nodes) {
            holds[given] = nodes;
            return given++;
        }

        boolean isHeld(int permit) {
            return holds[permit] != 0;
        }

        void release(int permit) {
            holds[permit] = 0;
        }

        int countHeld() {
            int count = 0;
            for (int permit = 0; permit < given; permit++) {
                count += isHeld(permit) ? 1 : 0;
            }
            return count;
        }

        int heldNodes() {
            int all = 0;
            for (int permit = 0; permit < given; permit++) {
                all |= holds[permit];
            }
            return all;
        }
    }
}
