/**
 * A bench for relays: coils, contacts, switches, diodes and lamps between nodes,
 * moved tick by tick as currents come and go.
 */
public final class RelayBench {
    private static final int NODES = 48;
    private static final int PLUS = 0;
    private static final int MINUS = 1;

    private static final int MOST_RELAYS = 16;
    private static final int MOST_CONTACTS = 64;
    private static final int MOST_KNOBS = 12;
    private static final int MOST_DIODES = 24;
    private static final int MOST_LAMPS = 12;

    private static final int LONGEST_TIME = 9;
    private static final int MOST_TICKS = 500;
    private static final int MOST_RACE_TICKS = 100;
    private static final int MOST_RACERS = 6;

    private static final int DOWN = 0;
    private static final int RISING = 1;
    private static final int UP = 2;
    private static final int FALLING = 3;

    private static final int FRONT = 0;
    private static final int BACK = 1;
    private static final int EARLY = 2;
    private static final int LATE = 3;
    private static final int WIRE = 4;

    private static final int NEVER_STILL = -1;
    private static final int NOT_SEEN = -1;
    private static final int NO_RACE = -1;

    private final Board board = new Board();
    private final Stand now = new Stand();
    // Runs that may have to be forgotten are done here, so that looking changes nothing.
    private final Stand trial = new Stand();
    private final Motion motion = new Motion(board);
    private final History history = new History();
    private int ticks = 0;

    public RelayBench() {
    }

    public int relay(int a, int b, int pull, int drop)
            throws IllegalArgumentException, IllegalStateException {
        needTwoNodes(a, b);
        needTime(pull);
        needTime(drop);
        needRoom(board.coils);
        int number = board.addRelay(a, b, pull, drop);
        motion.lookAtFuse(now);
        return number;
    }

    public int contact(int kind, int relay, int a, int b)
            throws IllegalArgumentException, IllegalStateException {
        needWithin(kind, FRONT, WIRE);
        if (kind != WIRE) {
            needPart(board.coils, relay);
        }
        needTwoNodes(a, b);
        needRoom(board.contacts);
        int number = board.addContact(kind, relay, a, b);
        motion.lookAtFuse(now);
        return number;
    }

    public int knob(int a, int b) throws IllegalArgumentException, IllegalStateException {
        return place(board.knobs, a, b);
    }

    public int diode(int a, int b) throws IllegalArgumentException, IllegalStateException {
        return place(board.diodes, a, b);
    }

    public int lamp(int a, int b) throws IllegalArgumentException, IllegalStateException {
        return place(board.lamps, a, b);
    }

    public boolean turn(int knob, boolean closed) throws IllegalArgumentException {
        needPart(board.knobs, knob);
        boolean changed = now.setKnob(knob, closed);
        motion.lookAtFuse(now);
        return changed;
    }

    public void dial(int first, int many, int bits) throws IllegalArgumentException {
        needWithin(many, 0, board.knobs.size);
        needWithin(first, 0, board.knobs.size - many);
        for (int k = 0; k < many; k++) {
            now.setKnob(first + k, hasBit(bits, k));
        }
        motion.lookAtFuse(now);
    }

    public int tick(int n) throws IllegalArgumentException {
        needWithin(n, 1, MOST_TICKS);
        int changes = 0;
        for (int k = 0; k < n; k++) {
            if (motion.step(now, 0)) {
                changes++;
            }
        }
        ticks += n;
        return changes;
    }

    public int settle(int most) throws IllegalArgumentException, UnsupportedOperationException {
        needWithin(most, 0, MOST_TICKS);
        trial.become(now);
        int done = motion.runTillStill(trial, 0, most);
        if (done == NEVER_STILL) {
            throw new UnsupportedOperationException("not still behind so many ticks");
        }
        now.become(trial);
        ticks += done;
        return done;
    }

    public int circle(int most) throws IllegalArgumentException, UnsupportedOperationException {
        needWithin(most, 1, MOST_TICKS);
        trial.become(now);
        history.begin(trial);
        for (int done = 1; done <= most; done++) {
            motion.step(trial, 0);
            int earlier = history.findOrKeep(trial);
            if (earlier != NOT_SEEN) {
                return earlier + 1000 * (done - earlier);
            }
        }
        throw new UnsupportedOperationException("no state is there twice");
    }

    public int race(int knob, boolean closed, int n, int most) throws IllegalArgumentException {
        needPart(board.knobs, knob);
        needWithin(n, 0, Math.min(MOST_RACERS, board.coils.size));
        needWithin(most, 1, MOST_RACE_TICKS);
        int usual = outcome(knob, closed, 0, most);
        for (int slow = 1; slow < 1 << n; slow++) {
            if (outcome(knob, closed, slow, most) != usual) {
                return slow;
            }
        }
        return NO_RACE;
    }

    public int state(int relay, int what) throws IllegalArgumentException {
        needPart(board.coils, relay);
        switch (what) {
            case 0:
                return now.states[relay];
            case 1:
                return now.counts[relay];
            case 2:
                return hasBit(motion.currents(now, board.coils), relay) ? 1 : 0;
            case 3:
                return now.worn[relay];
            default:
                throw new IllegalArgumentException("no such what");
        }
    }

    public int ups() {
        return now.ups;
    }

    public int lit() {
        return motion.currents(now, board.lamps);
    }

    public int node(int k) throws IllegalArgumentException {
        needNode(k);
        Flow flow = motion.flowOf(now);
        return (flow.isHot(k) ? 1 : 0) | (flow.isCold(k) ? 2 : 0);
    }

    public boolean leads(int a, int b) throws IllegalArgumentException {
        needNode(a);
        needNode(b);
        return motion.flowOf(now).reaches(a, b);
    }

    public boolean blown() {
        return now.blown;
    }

    public boolean fuse() {
        if (now.blown) {
            now.blown = false;
            motion.lookAtFuse(now);
        }
        return !now.blown;
    }

    public int count(int what) {
        switch (what) {
            case 0:
                return board.coils.size;
            case 1:
                return board.contacts.size;
            case 2:
                return board.knobs.size;
            case 3:
                return board.diodes.size;
            case 4:
                return board.lamps.size;
            case 5:
                return motion.flowOf(now).conducting;
            case 6:
                return ticks;
            default:
                return -1;
        }
    }

    private int place(Pairs kind, int a, int b) {
        needTwoNodes(a, b);
        needRoom(kind);
        int number = kind.add(a, b);
        motion.lookAtFuse(now);
        return number;
    }

    /** What a race compares: alike outcomes are equal numbers. */
    private int outcome(int knob, boolean closed, int slow, int most) {
        trial.become(now);
        trial.setKnob(knob, closed);
        motion.lookAtFuse(trial);
        if (motion.runTillStill(trial, slow, most) == NEVER_STILL) {
            return NEVER_STILL;
        }
        return trial.ups | (trial.blown ? 1 << MOST_RELAYS : 0);
    }

    private static void needWithin(int number, int least, int most) {
        if (number < least || number > most) {
            throw new IllegalArgumentException("a number out of its bounds");
        }
    }

    private static void needNode(int k) {
        needWithin(k, 0, NODES - 1);
    }

    private static void needTwoNodes(int a, int b) {
        needNode(a);
        needNode(b);
        if (a == b) {
            throw new IllegalArgumentException("the same node twice");
        }
    }

    private static void needTime(int ticks) {
        needWithin(ticks, 1, LONGEST_TIME);
    }

    private static void needPart(Pairs kind, int number) {
        needWithin(number, 0, kind.size - 1);
    }

    private static void needRoom(Pairs kind) {
        if (kind.isFull()) {
            throw new IllegalStateException("no room for one more part");
        }
    }

    private static boolean hasBit(int bits, int k) {
        return (bits >> k & 1) != 0;
    }

    /** Parts of one kind, each between two nodes. */
    private static final class Pairs {
        private final int[] first;
        private final int[] second;
        private int size;

        Pairs(int most) {
            first = new int[most];
            second = new int[most];
        }

        boolean isFull() {
            return size >= first.length;
        }

        /** Whoever calls this has asked isFull() before. */
        int add(int a, int b) {
            first[size] = a;
            second[size] = b;
            size++;
            return size - 1;
        }
    }

    /** The parts, which never change once they are there. */
    private static final class Board {
        private final Pairs coils = new Pairs(MOST_RELAYS);
        private final Pairs contacts = new Pairs(MOST_CONTACTS);
        private final Pairs knobs = new Pairs(MOST_KNOBS);
        private final Pairs diodes = new Pairs(MOST_DIODES);
        private final Pairs lamps = new Pairs(MOST_LAMPS);
        private final int[] pulls = new int[MOST_RELAYS];
        private final int[] drops = new int[MOST_RELAYS];
        private final int[] kinds = new int[MOST_CONTACTS];
        private final int[] owners = new int[MOST_CONTACTS];

        int addRelay(int a, int b, int pull, int drop) {
            int number = coils.add(a, b);
            pulls[number] = pull;
            drops[number] = drop;
            return number;
        }

        int addContact(int kind, int relay, int a, int b) {
            int number = contacts.add(a, b);
            kinds[number] = kind;
            // A wire's relay may be any number at all, so it is not kept.
            owners[number] = kind == WIRE ? 0 : relay;
            return number;
        }

        /** Coils and lamps conduct for no one, so they are left out. */
        int countConductors() {
            return contacts.size + knobs.size + diodes.size;
        }
    }

    /** All that changes behind the building: relays, switches, the fuse, wear. */
    private static final class Stand {
        private final int[] states = new int[MOST_RELAYS];
        private final int[] counts = new int[MOST_RELAYS];
        private final int[] worn = new int[MOST_RELAYS];
        // The states again, as sets: contacts ask for them far more often than they change.
        private int ups = 0;
        private int downs = -1;
        private int closed = 0;
        private boolean blown = false;

        void become(Stand other) {
            System.arraycopy(other.states, 0, states, 0, MOST_RELAYS);
            System.arraycopy(other.counts, 0, counts, 0, MOST_RELAYS);
            System.arraycopy(other.worn, 0, worn, 0, MOST_RELAYS);
            ups = other.ups;
            downs = other.downs;
            closed = other.closed;
            blown = other.blown;
        }

        /** Whether the switch was another way before. */
        boolean setKnob(int knob, boolean toClosed) {
            boolean before = hasBit(closed, knob);
            closed = withBit(closed, knob, toClosed);
            return before != toClosed;
        }

        /** The relays whose contacts of a kind conduct. */
        int relaysClosing(int kind) {
            switch (kind) {
                case FRONT:
                    return ups;
                case BACK:
                    return downs;
                case EARLY:
                    return ~downs;
                case LATE:
                    return ~ups;
                default:
                    return -1;
            }
        }

        /** A tick with current: whether it changed the relay. */
        boolean rise(int relay, int pull) {
            if (states[relay] == UP) {
                return false;
            }
            if (states[relay] == FALLING) {
                put(relay, UP, 0);
                return true;
            }
            // DOWN has count 0, so its first tick counts 1 without a case of its own.
            int count = counts[relay] + 1;
            if (count >= pull) {
                put(relay, UP, 0);
                worn[relay]++;
            } else {
                put(relay, RISING, count);
            }
            return true;
        }

        /** A tick without current: whether it changed the relay. */
        boolean fall(int relay, int drop) {
            if (states[relay] == DOWN) {
                return false;
            }
            if (states[relay] == RISING) {
                put(relay, DOWN, 0);
                return true;
            }
            int count = counts[relay] + 1;
            if (count >= drop) {
                put(relay, DOWN, 0);
            } else {
                put(relay, FALLING, count);
            }
            return true;
        }

        private void put(int relay, int state, int count) {
            states[relay] = state;
            counts[relay] = count;
            ups = withBit(ups, relay, state == UP);
            downs = withBit(downs, relay, state == DOWN);
        }

        private static int withBit(int bits, int k, boolean set) {
            return set ? bits | 1 << k : bits & ~(1 << k);
        }
    }

    /** What conducts, as rows of nodes, and what is hot and cold by it. */
    private static final class Flow {
        private final Board board;
        private final long[] onward = new long[NODES];
        private final long[] backward = new long[NODES];
        private long hot = 0;
        private long cold = 0;
        private int conducting = 0;
        // What the rows were made for: most ticks only count and move no contact.
        private int madeConductors = -1;
        private int madeUps = 0;
        private int madeDowns = 0;
        private int madeClosed = 0;

        Flow(Board board) {
            this.board = board;
        }

        void follow(Stand stand) {
            if (isMadeFor(stand)) {
                return;
            }
            madeConductors = board.countConductors();
            madeUps = stand.ups;
            madeDowns = stand.downs;
            madeClosed = stand.closed;
            for (int k = 0; k < NODES; k++) {
                onward[k] = 0;
                backward[k] = 0;
            }
            joinContacts(stand);
            joinKnobs(stand);
            joinDiodes();
            hot = reach(onward, PLUS);
            cold = reach(backward, MINUS);
        }

        boolean isHot(int node) {
            return (hot >> node & 1) != 0;
        }

        boolean isCold(int node) {
            return (cold >> node & 1) != 0;
        }

        boolean reaches(int from, int to) {
            return (reach(onward, from) >> to & 1) != 0;
        }

        /** Those that lie between a hot and a cold node, as bits. */
        int between(Pairs kind) {
            int bits = 0;
            for (int k = 0; k < kind.size; k++) {
                int a = kind.first[k];
                int b = kind.second[k];
                if (isHot(a) && isCold(b) || isHot(b) && isCold(a)) {
                    bits |= 1 << k;
                }
            }
            return bits;
        }

        private boolean isMadeFor(Stand stand) {
            return madeConductors == board.countConductors() && madeUps == stand.ups
                    && madeDowns == stand.downs && madeClosed == stand.closed;
        }

        private void joinContacts(Stand stand) {
            Pairs contacts = board.contacts;
            conducting = 0;
            for (int c = 0; c < contacts.size; c++) {
                if (hasBit(stand.relaysClosing(board.kinds[c]), board.owners[c])) {
                    join(contacts.first[c], contacts.second[c]);
                    join(contacts.second[c], contacts.first[c]);
                    conducting++;
                }
            }
        }

        private void joinKnobs(Stand stand) {
            Pairs knobs = board.knobs;
            for (int k = 0; k < knobs.size; k++) {
                if (hasBit(stand.closed, k)) {
                    join(knobs.first[k], knobs.second[k]);
                    join(knobs.second[k], knobs.first[k]);
                }
            }
        }

        private void joinDiodes() {
            Pairs diodes = board.diodes;
            for (int d = 0; d < diodes.size; d++) {
                join(diodes.first[d], diodes.second[d]);
            }
        }

        /** One way alone: what conducts both ways is joined twice. */
        private void join(int from, int to) {
            onward[from] |= 1L << to;
            backward[to] |= 1L << from;
        }

        private static long reach(long[] next, int from) {
            long reached = 1L << from;
            long open = reached;
            // Each round is done with one node, and no node comes twice.
            for (int round = 0; round < NODES && open != 0; round++) {
                int node = Long.numberOfTrailingZeros(open);
                long more = next[node] & ~reached;
                reached |= more;
                open = open & open - 1 | more;
            }
            return reached;
        }
    }

    /** How a stand moves on: the fuse, currents and ticks. */
    private static final class Motion {
        private final Board board;
        private final Flow flow;

        Motion(Board board) {
            this.board = board;
            this.flow = new Flow(board);
        }

        Flow flowOf(Stand stand) {
            flow.follow(stand);
            return flow;
        }

        /** Whether the fuse blew by this. */
        boolean lookAtFuse(Stand stand) {
            if (stand.blown) {
                return false;
            }
            flow.follow(stand);
            stand.blown = flow.isHot(MINUS);
            return stand.blown;
        }

        /** Coils or lamps that have current, as bits. */
        int currents(Stand stand, Pairs kind) {
            if (stand.blown) {
                return 0;
            }
            flow.follow(stand);
            return flow.between(kind);
        }

        /** One tick with a set of slow relays: whether it changed something. */
        boolean step(Stand stand, int slow) {
            boolean changed = lookAtFuse(stand);
            // All currents are known before the first relay moves.
            int fed = currents(stand, board.coils);
            for (int r = 0; r < board.coils.size; r++) {
                int late = hasBit(slow, r) ? 1 : 0;
                boolean moved = hasBit(fed, r)
                        ? stand.rise(r, board.pulls[r] + late)
                        : stand.fall(r, board.drops[r] + late);
                changed = changed || moved;
            }
            return changed;
        }

        /**
         * How many ticks it took, or NEVER_STILL. A tick that changes nothing is itself the
         * proof of being still, so one tick beyond most is tried; a stand that was never
         * still is of no more use.
         */
        int runTillStill(Stand stand, int slow, int most) {
            for (int done = 0; done <= most; done++) {
                if (!step(stand, slow)) {
                    return done;
                }
            }
            return NEVER_STILL;
        }
    }

    /** The states that a run has gone through, each packed into two numbers. */
    private static final class History {
        private static final int HALF = MOST_RELAYS / 2;

        private final long[] lows = new long[MOST_TICKS + 1];
        private final long[] highs = new long[MOST_TICKS + 1];
        private int size = 0;

        void begin(Stand stand) {
            size = 0;
            findOrKeep(stand);
        }

        /** After how many ticks the state was the same, or NOT_SEEN: then it is kept. */
        int findOrKeep(Stand stand) {
            long low = pack(stand, 0);
            long high = pack(stand, HALF) << 1 | (stand.blown ? 1 : 0);
            for (int k = 0; k < size; k++) {
                if (lows[k] == low && highs[k] == high) {
                    return k;
                }
            }
            if (size < lows.length) {
                lows[size] = low;
                highs[size] = high;
                size++;
            }
            return NOT_SEEN;
        }

        /** Six bits a relay: two hold its state, four its count, which is below 10. */
        private static long pack(Stand stand, int from) {
            long packed = 0;
            for (int r = from; r < from + HALF; r++) {
                packed = packed << 6 | stand.states[r] << 4 | stand.counts[r];
            }
            return packed;
        }
    }
}
