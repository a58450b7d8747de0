import java.util.function.Supplier;

/** Promise 12: race. */
public final class RaceTest {
    public static void main(String[] args) {
        Check.runAll(RaceTest.class);
    }

    private static void closes(String what, Supplier<RelayBench> maker, int n, int most, int due) {
        Check.looks(what, maker, x -> x.race(0, true, n, most), due);
    }

    private static void opens(String what, Supplier<RelayBench> maker, int n, int most, int due) {
        Check.looks(what, maker, x -> x.race(0, false, n, most), due);
    }

    private static void onlyTimeIsShort() {
        Supplier<RelayBench> maker = () -> Benches.chain(3);
        closes("both are not still", maker, 1, 2, -1);
        closes("the slow one is not still", maker, 1, 3, 1);
        closes("both are still", maker, 1, 4, -1);
        closes("no relay may be slow", maker, 0, 3, -1);
        opens("nothing moves", maker, 1, 1, -1);
    }

    private static RelayBench up(int drop) {
        RelayBench x = new RelayBench();
        x.knob(0, 2);
        x.relay(2, 1, 1, drop);
        x.turn(0, true);
        x.tick(1);
        return x;
    }

    private static void slowToDropToo() {
        Supplier<RelayBench> maker = () -> up(4);
        opens("both are not still", maker, 1, 3, -1);
        opens("the slow one is not still", maker, 1, 4, 1);
        opens("both are still", maker, 1, 5, -1);
    }

    private static void fromTheMiddle() {
        Supplier<RelayBench> maker = Benches.then(() -> up(4), x -> {
            x.turn(0, false);
            x.tick(2);
        });
        opens("both are not still", maker, 1, 1, -1);
        opens("the slow one is not still", maker, 1, 2, 1);
        opens("both are still", maker, 1, 3, -1);
        closes("caught again", maker, 1, 1, -1);
    }

    /** Two relays, each fed as long as the other one is not up. */
    private static Supplier<RelayBench> rivals(int pullA, int pullB) {
        return () -> {
            RelayBench x = new RelayBench();
            x.relay(2, 1, pullA, 1);
            x.relay(3, 1, pullB, 1);
            x.knob(0, 4);
            x.contact(3, 1, 4, 2);
            x.contact(3, 0, 4, 3);
            return x;
        };
    }

    private static void whoIsFirst() {
        closes("together they never rest; the first is slow: they do", rivals(1, 1), 2, 50, 1);
        closes("the first alone", rivals(1, 1), 1, 50, 1);
        closes("the empty set alone", rivals(1, 1), 0, 50, -1);
        closes("the second wins anyway", rivals(3, 1), 2, 50, -1);
        opens("switched off in time", Benches.then(rivals(1, 1), x -> x.turn(0, true)), 2, 50, -1);
    }

    /** If the second is slow both come up, but it is slow to fall too and is caught in time. */
    private static void whoIsSecond() {
        closes("the second wins all the same", rivals(2, 1), 2, 50, -1);
    }

    /**
     * Relay 2 is caught, and holds itself, if relay 0 is up while relay 1 is not yet.
     * With both of the same pull this needs relay 1 to be slow.
     */
    private static void whoIsCaught() {
        Supplier<RelayBench> maker = () -> {
            RelayBench x = new RelayBench();
            x.relay(2, 1, 2, 1);
            x.relay(2, 1, 2, 1);
            x.relay(3, 1, 1, 1);
            x.knob(0, 2);
            x.contact(3, 1, 2, 4);
            x.contact(0, 0, 4, 3);
            x.contact(0, 2, 2, 3);
            return x;
        };
        closes("second slow: the third is left up", maker, 2, 50, 2);
        closes("second slow, the third may be too", maker, 3, 50, 2);
        closes("the first alone", maker, 1, 50, -1);
    }

    /** Two relays that are up; when they fall, early of one meets back of the other if it is slow. */
    private static Supplier<RelayBench> shortWhenSlow(int slow) {
        return () -> {
            RelayBench x = new RelayBench();
            x.knob(0, 2);
            x.relay(2, 1, 1, 1);
            x.relay(2, 1, 1, 1);
            x.turn(0, true);
            x.tick(1);
            x.contact(2, slow, 0, 5);
            x.contact(1, 1 - slow, 5, 1);
            return x;
        };
    }

    /** All relays are down in the end, but the slow one leaves a blown fuse. */
    private static void fuseAlone() {
        opens("first slow", shortWhenSlow(0), 2, 50, 1);
        closes("nothing moves", shortWhenSlow(0), 2, 50, -1);
        opens("second slow", shortWhenSlow(1), 2, 50, 2);
        opens("the first alone", shortWhenSlow(1), 1, 50, -1);
        opens("blown before, so it is the same fuse", Benches.then(shortWhenSlow(1), x -> {
            x.knob(0, 1);
            x.turn(1, true);
        }), 2, 50, -1);
    }

    private static void fuseByTheSwitch() {
        Supplier<RelayBench> maker = () -> {
            RelayBench x = new RelayBench();
            x.knob(0, 1);
            x.relay(0, 1, 3, 1);
            return x;
        };
        closes("no current behind the switch", maker, 1, 1, -1);
        opens("current, the slow one is not still", maker, 1, 3, 1);
        closes("up falls with the fuse", Benches.then(maker, x -> x.tick(3)), 1, 1, 1);
    }

    /** The switch is open already, but a short waits for the fuse to be looked at. */
    private static void looksAtTheFuseAsTurn() {
        Supplier<RelayBench> maker = () -> Benches.shortNotLookedAt(x -> {
            x.relay(0, 1, 1, 1);
            x.tick(1);
        });
        Check.same("the second is up", maker.get().ups(), 2);
        opens("slow to fall without fuse", maker, 2, 1, 2);
        opens("both are in time", maker, 2, 2, -1);
    }

    /** The sixth relay alone is not still in time; more than six are not looked at. */
    private static void sixRacers() {
        Supplier<RelayBench> maker = () -> {
            RelayBench x = new RelayBench();
            x.knob(0, 2);
            for (int r = 0; r < 7; r++) {
                x.relay(r < 5 ? 3 : 2, 1, 1, 1);
            }
            return x;
        };
        closes("the sixth is not still", maker, 6, 1, 32);
        closes("not among the first five", maker, 5, 1, -1);
    }
}
