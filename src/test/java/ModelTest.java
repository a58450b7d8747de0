import java.util.ArrayList;
import java.util.Arrays;
import java.util.HashMap;
import java.util.List;
import java.util.Map;
import java.util.Random;

/** Long mixed runs of all calls, wrong ones among them, against a second program that shares no code. */
public final class ModelTest {
    private static final int BENCHES = 400;
    private static final int CALLS = 512;
    private static final int COMPARING = 9 + 4 * 21;

    /** The document again, as slow and plain as can be. */
    private static final class Model {
        private final List<int[]> coils = new ArrayList<>();
        private final List<int[]> contacts = new ArrayList<>();
        private final List<int[]> knobs = new ArrayList<>();
        private final List<int[]> diodes = new ArrayList<>();
        private final List<int[]> lamps = new ArrayList<>();
        private boolean[] closed = new boolean[12];
        private char[] state = new char[16];
        private int[] count = new int[16];
        private int[] worn = new int[16];
        private boolean whole = true;
        private int ticks = 0;

        Model() {
            Arrays.fill(state, 'd');
        }

        static boolean nodes(int a, int b) {
            return 0 <= a && a < 48 && 0 <= b && b < 48;
        }

        void add(List<int[]> kind, int most, boolean right, int... part) {
            if (!right) {
                throw new IllegalArgumentException();
            }
            if (kind.size() == most) {
                throw new IllegalStateException();
            }
            kind.add(part);
            look();
        }

        boolean conducts(int[] contact) {
            char s = contact[0] == 4 ? '-' : state[contact[1]];
            return switch (contact[0]) {
                case 0 -> s == 'u';
                case 1 -> s == 'd';
                case 2 -> s != 'd';
                case 3 -> s != 'u';
                default -> true;
            };
        }

        boolean[][] ways() {
            boolean[][] way = new boolean[48][48];
            for (int k = 0; k < 48; k++) {
                way[k][k] = true;
            }
            for (int[] c : contacts) {
                if (conducts(c)) {
                    way[c[2]][c[3]] = true;
                    way[c[3]][c[2]] = true;
                }
            }
            for (int k = 0; k < knobs.size(); k++) {
                if (closed[k]) {
                    way[knobs.get(k)[0]][knobs.get(k)[1]] = true;
                    way[knobs.get(k)[1]][knobs.get(k)[0]] = true;
                }
            }
            for (int[] d : diodes) {
                way[d[0]][d[1]] = true;
            }
            for (int over = 0; over < 48; over++) {
                for (int a = 0; a < 48; a++) {
                    for (int b = 0; way[a][over] && b < 48; b++) {
                        way[a][b] |= way[over][b];
                    }
                }
            }
            return way;
        }

        void look() {
            if (ways()[0][1]) {
                whole = false;
            }
        }

        boolean current(boolean[][] way, int[] part) {
            int a = part[0];
            int b = part[1];
            return whole && (way[0][a] && way[b][1] || way[0][b] && way[a][1]);
        }

        String told() {
            return new String(state) + Arrays.toString(count) + whole;
        }

        void tick(int slow) {
            look();
            boolean[][] way = ways();
            for (int r = 0; r < coils.size(); r++) {
                int late = (slow & 1 << r) != 0 ? 1 : 0;
                if (current(way, coils.get(r))) {
                    switch (state[r]) {
                        case 'd' -> become(r, 'r', 1);
                        case 'r' -> become(r, 'r', count[r] + 1);
                        case 'f' -> become(r, 'u', 0);
                        default -> { }
                    }
                } else {
                    switch (state[r]) {
                        case 'u' -> become(r, 'f', 1);
                        case 'f' -> become(r, 'f', count[r] + 1);
                        case 'r' -> become(r, 'd', 0);
                        default -> { }
                    }
                }
                if (state[r] == 'r' && count[r] >= coils.get(r)[2] + late) {
                    become(r, 'u', 0);
                    worn[r]++;
                }
                if (state[r] == 'f' && count[r] >= coils.get(r)[3] + late) {
                    become(r, 'd', 0);
                }
            }
        }

        void become(int r, char s, int c) {
            state[r] = s;
            count[r] = c;
        }

        Model copy() {
            Model m = new Model();
            m.coils.addAll(coils);
            m.contacts.addAll(contacts);
            m.knobs.addAll(knobs);
            m.diodes.addAll(diodes);
            m.lamps.addAll(lamps);
            m.closed = closed.clone();
            m.state = state.clone();
            m.count = count.clone();
            m.worn = worn.clone();
            m.whole = whole;
            m.ticks = ticks;
            return m;
        }

        boolean still() {
            Model m = copy();
            m.tick(0);
            return m.told().equals(told());
        }

        static void right(boolean is) {
            if (!is) {
                throw new IllegalArgumentException();
            }
        }

        boolean turn(int knob, boolean to) {
            right(knob >= 0 && knob < knobs.size());
            boolean was = closed[knob];
            closed[knob] = to;
            look();
            return was != to;
        }

        void dial(int first, int many, int bits) {
            right(first >= 0 && many >= 0 && (long) first + many <= knobs.size());
            for (int k = 0; k < many; k++) {
                closed[first + k] = (bits & 1 << k) != 0;
            }
            look();
        }

        int ticks(int n) {
            right(n >= 1 && n <= 500);
            int changed = 0;
            for (int k = 0; k < n; k++) {
                String before = told();
                tick(0);
                ticks++;
                changed += told().equals(before) ? 0 : 1;
            }
            return changed;
        }

        int settle(int most) {
            right(most >= 0 && most <= 500);
            Model m = copy();
            for (int k = 0; k <= most; k++) {
                if (m.still()) {
                    for (int t = 0; t < k; t++) {
                        tick(0);
                    }
                    ticks += k;
                    return k;
                }
                m.tick(0);
            }
            throw new UnsupportedOperationException();
        }

        int circle(int most) {
            right(most >= 1 && most <= 500);
            Map<String, Integer> seen = new HashMap<>();
            Model m = copy();
            for (int k = 0; k <= most; k++) {
                Integer before = seen.put(m.told(), k);
                if (before != null) {
                    return before + 1000 * (k - before);
                }
                m.tick(0);
            }
            throw new UnsupportedOperationException();
        }

        int race(int knob, boolean to, int n, int most) {
            right(knob >= 0 && knob < knobs.size() && n >= 0 && n <= 6 && n <= coils.size());
            right(most >= 1 && most <= 100);
            String usual = "";
            for (int slow = 0; slow < 1 << n; slow++) {
                Model m = copy();
                m.turn(knob, to);
                for (int k = 0; k < most && !m.still(); k++) {
                    m.tick(slow);
                }
                String end = m.still() ? m.ups() + " " + m.whole : "never";
                if (slow == 0) {
                    usual = end;
                } else if (!usual.equals(end)) {
                    return slow;
                }
            }
            return -1;
        }

        int state(int relay, int what) {
            right(relay >= 0 && relay < coils.size() && what >= 0 && what <= 3);
            return switch (what) {
                case 0 -> "druf".indexOf(state[relay]);
                case 1 -> count[relay];
                case 2 -> current(ways(), coils.get(relay)) ? 1 : 0;
                default -> worn[relay];
            };
        }

        int ups() {
            int bits = 0;
            for (int r = 0; r < 16; r++) {
                bits |= state[r] == 'u' ? 1 << r : 0;
            }
            return bits;
        }

        int lit() {
            boolean[][] way = ways();
            int bits = 0;
            for (int k = 0; k < lamps.size(); k++) {
                bits |= current(way, lamps.get(k)) ? 1 << k : 0;
            }
            return bits;
        }

        boolean fuse() {
            if (!whole) {
                whole = true;
                look();
            }
            return whole;
        }

        int count(int what) {
            return switch (what) {
                case 0 -> coils.size();
                case 1 -> contacts.size();
                case 2 -> knobs.size();
                case 3 -> diodes.size();
                case 4 -> lamps.size();
                case 5 -> (int) contacts.stream().filter(this::conducts).count();
                case 6 -> ticks;
                default -> -1;
            };
        }
    }

    /** One call, to be made of both. */
    private interface Call {
        Object made();
    }

    private static String answer(Call call) {
        try {
            return String.valueOf(call.made());
        } catch (RuntimeException e) {
            return e.getClass().getSimpleName();
        }
    }

    private final Random random;
    private final RelayBench x = new RelayBench();
    private final Model m = new Model();
    private final int nodes;
    private final int longest;
    private final int building;
    private final int shortness;
    private int calls = 0;

    private ModelTest(int seed) {
        random = new Random(seed);
        nodes = 4 + random.nextInt(seed % 5 == 0 ? 45 : 12);
        longest = 1 + random.nextInt(9);
        building = seed % 2 == 0 ? 8 + random.nextInt(14) : 10 + random.nextInt(50);
        shortness = 1 + random.nextInt(60);
    }

    private int number(int below) {
        // Now and then one that may be wrong.
        return random.nextInt(60) == 0 ? random.nextInt(70) - 10 : random.nextInt(Math.max(1, below));
    }

    /** A way from PLUS to MINUS ends all movement, so most conductors keep away from MINUS. */
    private int feedNode() {
        int k = number(nodes);
        return k == 1 && random.nextInt(shortness) != 0 ? 0 : k;
    }

    private void both(String told, Call ofBench, Call ofModel) {
        Check.same(told, answer(ofBench), answer(ofModel));
    }

    /** Switches feed nodes 2 .. 4, contacts lead on from there to coils at 5 .. 10: here much moves. */
    private void buildPlanned() {
        int source = random.nextInt(5);
        int a = source == 1 ? 0 : source;
        int b = 5 + random.nextInt(6);
        int p = 1 + random.nextInt(longest);
        int q = 1 + random.nextInt(longest);
        int relays = m.coils.size();
        if (relays < 2 || random.nextInt(6) == 0 && relays < 16) {
            both("relay", () -> x.relay(b, 1, p, q), () -> {
                m.add(m.coils, 16, true, b, 1, p, q);
                return relays;
            });
        } else if (random.nextInt(6) == 0) {
            both("knob", () -> x.knob(0, 2 + p % 3), () -> {
                m.add(m.knobs, 12, true, 0, 2 + p % 3);
                return m.knobs.size() - 1;
            });
        } else {
            int kind = random.nextInt(4);
            int relay = random.nextInt(relays);
            int to = random.nextInt(shortness + 5) == 0 ? 1 : b;
            both("contact", () -> x.contact(kind, relay, a, to), () -> {
                m.add(m.contacts, 64, true, kind, relay, a, to);
                return m.contacts.size() - 1;
            });
        }
    }

    private void build() {
        int a = feedNode();
        int b = feedNode();
        int p = 1 + number(longest);
        int q = 1 + number(longest);
        boolean between = Model.nodes(a, b) && a != b;
        switch (random.nextInt(10)) {
            case 0, 1 -> {
                int c = random.nextInt(4) != 0 ? 1 : b;
                boolean right = Model.nodes(a, c) && a != c && p >= 1 && p <= 9 && q >= 1 && q <= 9;
                both("relay", () -> x.relay(a, c, p, q), () -> {
                    m.add(m.coils, 16, right, a, c, p, q);
                    return m.coils.size() - 1;
                });
            }
            case 2, 3, 4, 5, 6 -> {
                int kind = random.nextInt(6) == 0 ? number(5) : number(4);
                int relay = number(m.coils.size());
                boolean known = kind == 4 || relay >= 0 && relay < m.coils.size();
                boolean right = between && kind >= 0 && kind <= 4 && known;
                both("contact", () -> x.contact(kind, relay, a, b), () -> {
                    m.add(m.contacts, 64, right, kind, relay, a, b);
                    return m.contacts.size() - 1;
                });
            }
            case 7 -> both("knob", () -> x.knob(a, b), () -> {
                m.add(m.knobs, 12, between, a, b);
                return m.knobs.size() - 1;
            });
            case 8 -> both("diode", () -> x.diode(a, b), () -> {
                m.add(m.diodes, 24, between, a, b);
                return m.diodes.size() - 1;
            });
            default -> {
                int c = random.nextInt(3) != 0 ? 1 : b;
                boolean right = Model.nodes(a, c) && a != c;
                both("lamp", () -> x.lamp(a, c), () -> {
                    m.add(m.lamps, 12, right, a, c);
                    return m.lamps.size() - 1;
                });
            }
        }
    }

    private void use() {
        int knob = number(m.knobs.size());
        int many = number(4);
        int bits = random.nextInt();
        boolean way = random.nextBoolean();
        int n = 1 + number(6);
        int k = number(48);
        switch (random.nextInt(16)) {
            case 0, 1 -> both("turn", () -> x.turn(knob, way), () -> m.turn(knob, way));
            case 2 -> both("dial", () -> {
                x.dial(knob, many, bits);
                return 0;
            }, () -> {
                m.dial(knob, many, bits);
                return 0;
            });
            case 3, 4, 5, 6 -> both("tick", () -> x.tick(n), () -> m.ticks(n));
            case 7 -> both("settle", () -> x.settle(k), () -> m.settle(k));
            case 8 -> both("circle", () -> x.circle(k), () -> m.circle(k));
            case 9, 10, 11 -> {
                int racers = random.nextInt(Math.min(6, m.coils.size() + 1));
                int most = n + 1 + random.nextInt(14);
                both("race", () -> x.race(knob, way, racers, most), () -> m.race(knob, way, racers, most));
            }
            case 12 -> both("fuse", () -> x.fuse(), () -> m.fuse());
            case 13 -> both("leads", () -> x.leads(k, n), () -> {
                Model.right(Model.nodes(k, n));
                return m.ways()[k][n];
            });
            case 14 -> both("state", () -> x.state(knob, many), () -> m.state(knob, many));
            default -> both("node", () -> x.node(k), () -> {
                Model.right(Model.nodes(k, k));
                boolean[][] ways = m.ways();
                return (ways[0][k] ? 1 : 0) + (ways[k][1] ? 2 : 0);
            });
        }
    }

    /** The sums, and of each relay one thing, another one each time. */
    private void compareSome(int turn) {
        calls += 5 + m.coils.size();
        Check.same("count(5)", x.count(5), m.count(5));
        Check.same("count(6)", x.count(6), m.count(6));
        Check.same("ups", x.ups(), m.ups());
        Check.same("lit", x.lit(), m.lit());
        Check.same("blown", x.blown() ? 1 : 0, m.whole ? 0 : 1);
        for (int r = 0; r < m.coils.size(); r++) {
            int what = (turn + r) % 4;
            Check.same("state", x.state(r, what), m.state(r, what));
        }
    }

    private void compareAll() {
        for (int what = -1; what <= 7; what++) {
            Check.same("count", x.count(what), m.count(what));
        }
        for (int turn = 0; turn < 4; turn++) {
            compareSome(turn);
        }
    }

    /** As long as the calls that a bench is good for last, those of comparing among them. */
    private void run(boolean planned) {
        for (int step = 0; calls < CALLS - 21 - COMPARING; step++) {
            calls++;
            if (step >= building && random.nextInt(20) != 0) {
                use();
            } else if (planned) {
                buildPlanned();
            } else {
                build();
            }
            if (step % 12 == 0) {
                compareSome(step / 12);
            }
        }
        compareAll();
    }

    private static void mixedRuns() {
        for (int seed = 0; seed < BENCHES; seed++) {
            new ModelTest(seed).run(seed % 2 == 0);
        }
    }

    public static void main(String[] args) {
        Check.runAll(ModelTest.class);
    }
}
