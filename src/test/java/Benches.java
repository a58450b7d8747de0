import java.util.LinkedHashMap;
import java.util.Map;
import java.util.function.Consumer;
import java.util.function.Supplier;

/** Benches to begin with. Made twice, a bench is twice the same. */
final class Benches {
    /** All of them, by what they are. */
    static final Map<String, Supplier<RelayBench>> ALL = new LinkedHashMap<>();

    static {
        ALL.put("empty", RelayBench::new);
        ALL.put("moving", Benches::moving);
        ALL.put("full", Benches::full);
        ALL.put("blown", Benches::blown);
        ALL.put("short, which the fuse does not know", Benches::shortNotLookedAt);
    }

    private Benches() {
    }

    /** A bench to which something more has been done. */
    static Supplier<RelayBench> then(Supplier<RelayBench> maker, Consumer<RelayBench> deed) {
        return () -> {
            RelayBench x = maker.get();
            deed.accept(x);
            return x;
        };
    }

    /** Relay 0 is up, relay 1 is rising behind it, relay 2 falls and is caught, again and again. */
    static RelayBench moving() {
        RelayBench x = new RelayBench();
        x.knob(0, 2);
        x.knob(0, 5);
        x.relay(2, 1, 3, 2);
        x.relay(3, 1, 4, 5);
        x.relay(4, 1, 2, 2);
        x.contact(0, 0, 0, 3);
        x.contact(3, 2, 0, 4);
        x.contact(4, 0, 3, 6);
        x.diode(6, 7);
        x.lamp(7, 1);
        x.lamp(5, 1);
        x.turn(0, true);
        x.tick(5);
        return x;
    }

    /** As many parts as there may be; half of the switches are closed, and some relays are on their way. */
    static RelayBench full() {
        RelayBench x = new RelayBench();
        for (int r = 0; r < 16; r++) {
            x.relay(2 + r, 1, 1 + r % 9, 9 - r % 9);
        }
        for (int c = 0; c < 64; c++) {
            x.contact(c % 5, c * 7 % 16, 18 + c % 9, 2 + c * 11 % 16);
        }
        for (int k = 0; k < 12; k++) {
            x.knob(0, 18 + k);
        }
        for (int d = 0; d < 24; d++) {
            x.diode(18 + d, 24 + d);
        }
        for (int l = 0; l < 12; l++) {
            x.lamp(2 + 4 * l, 1);
        }
        x.dial(0, 12, 0b010110100101);
        x.tick(4);
        return x;
    }

    /** The fuse blew in the midst of movement, and nothing would blow it now. */
    static RelayBench blown() {
        RelayBench x = moving();
        x.knob(0, 1);
        x.turn(2, true);
        x.turn(2, false);
        x.tick(1);
        return x;
    }

    /** The last tick has closed a way from PLUS to MINUS; the fuse has not been looked at since. */
    static RelayBench shortNotLookedAt() {
        return shortNotLookedAt(x -> x.lamp(0, 1));
    }

    /** The same with other parts on it, which have to come before the short does. */
    static RelayBench shortNotLookedAt(Consumer<RelayBench> others) {
        RelayBench x = new RelayBench();
        x.knob(0, 2);
        x.relay(2, 1, 1, 1);
        x.turn(0, true);
        x.tick(1);
        x.contact(1, 0, 0, 1);
        others.accept(x);
        x.turn(0, false);
        x.tick(1);
        return x;
    }

    /** Switch 0 feeds relay 0, and each relay the next one; no relay holds longer than a tick. */
    static RelayBench chain(int... pulls) {
        RelayBench x = new RelayBench();
        x.knob(0, 2);
        for (int r = 0; r < pulls.length; r++) {
            x.relay(2 + r, 1, pulls[r], 1);
            x.contact(0, r, 0, 3 + r);
        }
        return x;
    }

    /** A relay that breaks its own feed by a contact of a kind. */
    static RelayBench buzzer(int kind, int pull, int drop) {
        RelayBench x = new RelayBench();
        x.relay(2, 1, pull, drop);
        x.contact(kind, 0, 0, 2);
        return x;
    }

    /**
     * It is still behind exactly 630 ticks: three buzzers, up once in 10, 9 and 7 ticks, are up together
     * behind the 629th; then relay 3 rises, holds itself and takes their feed away.
     */
    static RelayBench stillBehind630() {
        RelayBench x = new RelayBench();
        int[] pulls = {9, 8, 6};
        for (int r = 0; r < 3; r++) {
            x.relay(10 + r, 1, pulls[r], 1);
            x.contact(3, r, 5, 10 + r);
        }
        x.relay(20, 1, 1, 1);
        x.contact(1, 3, 0, 5);
        x.contact(0, 0, 0, 21);
        x.contact(0, 1, 21, 22);
        x.contact(0, 2, 22, 20);
        x.contact(0, 3, 0, 20);
        return x;
    }
}
