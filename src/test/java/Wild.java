import java.util.Random;

/** A bench of parts by chance, the same one for the same seed; the nodes and times of its relays are known. */
final class Wild {
    private static final int FIRST_COIL = 8;
    private static final int[] NEAR_PLUS = {0, 2, 2, 2, 3, 4};
    private static final int[] NEAR_MINUS = {1, 5, 6};

    final int seed;
    final int relays;
    final int knobs;
    final int[] pulls = new int[16];
    final int[] drops = new int[16];
    private final boolean mayShort;

    Wild(int seed) {
        this.seed = seed;
        Random random = new Random(seed);
        relays = 2 + random.nextInt(5);
        knobs = 1 + random.nextInt(4);
        mayShort = random.nextInt(4) == 0;
        int longest = 1 + random.nextInt(8);
        for (int r = 0; r < relays; r++) {
            pulls[r] = 1 + random.nextInt(longest);
            drops[r] = 1 + random.nextInt(longest);
        }
    }

    /** Every third coil lies towards PLUS, the others towards MINUS. */
    int from(int relay) {
        return relay % 3 == 2 ? 0 : FIRST_COIL + relay;
    }

    int to(int relay) {
        return relay % 3 == 2 ? FIRST_COIL + relay : 1;
    }

    /** No tick was done and no switch turned; the times of the slow ones are longer by one. */
    RelayBench built(int slow) {
        RelayBench x = new RelayBench();
        for (int r = 0; r < relays; r++) {
            int late = slow >> r & 1;
            x.relay(from(r), to(r), pulls[r] + late, drops[r] + late);
            x.lamp(to(r), from(r));
        }
        // Nodes 2 .. 4 are fed from PLUS, nodes 5 and 6 lead to MINUS.
        for (int k = 0; k < knobs; k++) {
            x.knob(k == 3 ? 1 : 0, k == 3 ? 5 : 2 + k);
        }
        x.diode(3, 4);
        x.diode(6, 1);
        x.diode(5, 6);
        addFeeds(x, new Random(~seed));
        return x;
    }

    /** Each coil has up to three feeds, of one contact or of two in a row. */
    private void addFeeds(RelayBench x, Random random) {
        int middle = FIRST_COIL + 16;
        for (int r = 0; r < relays; r++) {
            int[] sources = from(r) == 0 ? NEAR_MINUS : NEAR_PLUS;
            int feeds = 1 + random.nextInt(3);
            for (int f = 0; f < feeds; f++) {
                int source = sources[random.nextInt(sources.length)];
                if (random.nextInt(3) == 0) {
                    addContact(x, random, source, middle);
                    source = middle++;
                }
                addContact(x, random, source, FIRST_COIL + r);
            }
        }
        if (mayShort) {
            addContact(x, random, 2, middle);
            addContact(x, random, middle, 6);
        }
    }

    private void addContact(RelayBench x, Random random, int a, int b) {
        int kind = random.nextInt(15) == 0 ? 4 : random.nextInt(4);
        x.contact(kind, random.nextInt(relays), a, b);
    }

    /** The same, behind some turns and ticks; switch 0 has just been turned. */
    RelayBench used() {
        RelayBench x = built(0);
        Random random = new Random(seed * 31L);
        boolean closed = random.nextInt(3) == 0;
        for (int k = 0; k < 3; k++) {
            x.dial(0, knobs, random.nextInt() & ~1 | (closed ? 1 : 0));
            x.tick(1 + random.nextInt(9));
        }
        x.turn(0, !closed);
        return x;
    }
}
