/** Promise 12: race. */
public final class RaceTest {
    public static void main(String[] args) {
        onlyTimeIsShort();
        slowToDropToo();
        whoIsFirst();
        whoIsCaught();
        fuseAlone();
        fuseByTheSwitch();
        looksAtTheFuseAsTurn();
        sixRacers();
        wrongOnes();
        Check.end();
    }

    private static void looks(String what, RelayBench x, int n, int most, int due) {
        looks(what, x, true, n, most, due);
    }

    private static void looks(String what, RelayBench x, boolean closed, int n, int most, int due) {
        String before = Check.picture(x);
        Check.same(what, x.race(0, closed, n, most), due);
        Check.same(what + " changes nothing", Check.picture(x), before);
    }

    private static void onlyTimeIsShort() {
        RelayBench x = new RelayBench();
        x.knob(0, 2);
        x.relay(2, 1, 3, 3);
        looks("both are not still", x, 1, 2, -1);
        looks("the slow one is not still", x, 1, 3, 1);
        looks("both are still", x, 1, 4, -1);
        looks("no relay may be slow", x, 0, 3, -1);
        looks("nothing moves", x, false, 1, 1, -1);
    }

    private static void slowToDropToo() {
        RelayBench x = new RelayBench();
        x.knob(0, 2);
        x.relay(2, 1, 1, 4);
        x.turn(0, true);
        x.tick(1);
        looks("both are not still", x, false, 1, 3, -1);
        looks("the slow one is not still", x, false, 1, 4, 1);
        looks("both are still", x, false, 1, 5, -1);
        x.turn(0, false);
        x.tick(2);
        looks("the slow one is not still, from the middle", x, false, 1, 2, 1);
        looks("caught again", x, true, 1, 1, -1);
    }

    /** Two relays, each fed as long as the other one is not up. */
    private static RelayBench rivals(int pullA, int pullB) {
        RelayBench x = new RelayBench();
        x.relay(2, 1, pullA, 1);
        x.relay(3, 1, pullB, 1);
        x.knob(0, 4);
        x.contact(3, 1, 4, 2);
        x.contact(3, 0, 4, 3);
        return x;
    }

    private static void whoIsFirst() {
        looks("together they never rest; the first is slow: they do", rivals(1, 1), 2, 50, 1);
        looks("the first alone", rivals(1, 1), 1, 50, 1);
        looks("the empty set alone", rivals(1, 1), 0, 50, -1);
        looks("the second wins anyway", rivals(3, 1), 2, 50, -1);
        RelayBench x = rivals(1, 1);
        x.turn(0, true);
        looks("switched off in time", x, false, 2, 50, -1);
    }

    /**
     * Relay 2 is caught, and holds itself, if relay 0 is up while relay 1 is not yet.
     * With both of the same pull this needs relay 1 to be slow.
     */
    private static void whoIsCaught() {
        RelayBench x = new RelayBench();
        x.relay(2, 1, 2, 1);
        x.relay(2, 1, 2, 1);
        x.relay(3, 1, 1, 1);
        x.knob(0, 2);
        x.contact(3, 1, 2, 4);
        x.contact(0, 0, 4, 3);
        x.contact(0, 2, 2, 3);
        looks("second slow: the third is left up", x, 2, 50, 2);
        looks("second slow, the third may be too", x, 3, 50, 2);
        looks("the first alone", x, 1, 50, -1);
    }

    /** All relays are down in the end, but the slow one leaves a blown fuse. */
    private static void fuseAlone() {
        RelayBench x = new RelayBench();
        x.knob(0, 2);
        x.relay(2, 1, 1, 1);
        x.relay(2, 1, 1, 1);
        x.turn(0, true);
        x.tick(1);
        x.contact(2, 0, 0, 5);
        x.contact(1, 1, 5, 1);
        looks("first slow: early of one meets back of the other", x, false, 2, 50, 1);
        looks("nothing moves", x, true, 2, 50, -1);
        RelayBench y = new RelayBench();
        y.knob(0, 2);
        y.relay(2, 1, 1, 1);
        y.relay(2, 1, 1, 1);
        y.turn(0, true);
        y.tick(1);
        y.contact(2, 1, 0, 5);
        y.contact(1, 0, 5, 1);
        looks("second slow", y, false, 2, 50, 2);
        looks("the first alone", y, false, 1, 50, -1);
        y.knob(0, 1);
        y.turn(1, true);
        looks("blown before, so it is the same fuse", y, false, 2, 50, -1);
    }

    private static void fuseByTheSwitch() {
        RelayBench x = new RelayBench();
        x.knob(0, 1);
        x.relay(0, 1, 3, 1);
        looks("no current behind the switch", x, 1, 1, -1);
        looks("current, the slow one is not still", x, false, 1, 3, 1);
        x.tick(3);
        looks("up falls with the fuse", x, 1, 1, 1);
    }

    /** The switch is open already, but a short waits for the fuse to be looked at. */
    private static void looksAtTheFuseAsTurn() {
        RelayBench x = new RelayBench();
        x.knob(0, 2);
        x.relay(2, 1, 1, 1);
        x.relay(0, 1, 1, 1);
        x.turn(0, true);
        x.tick(1);
        x.contact(1, 0, 0, 1);
        x.turn(0, false);
        x.tick(1);
        looks("slow to fall without fuse", x, false, 2, 1, 2);
        Check.no("not looked at for good", x.blown());
    }

    /** A set of the sixth relay alone is the least one; more than six are not looked at. */
    private static void sixRacers() {
        RelayBench x = new RelayBench();
        x.knob(0, 2);
        for (int r = 0; r < 7; r++) {
            x.relay(r < 5 ? 3 : 2, 1, 1, 1);
        }
        looks("the sixth is not still", x, 6, 1, 32);
        looks("not among the first five", x, 5, 1, -1);
        Check.badArgument("seven", x, () -> x.race(0, true, 7, 1));
    }

    private static void wrongOnes() {
        RelayBench x = rivals(1, 1);
        for (int wrong : new int[] {-1, 1, 12, Integer.MIN_VALUE, Integer.MAX_VALUE}) {
            Check.badArgument("switch " + wrong, x, () -> x.race(wrong, true, 2, 50));
        }
        for (int wrong : new int[] {-1, 3, 6, 7, Integer.MIN_VALUE, Integer.MAX_VALUE}) {
            Check.badArgument("n " + wrong, x, () -> x.race(0, true, wrong, 50));
        }
        for (int wrong : new int[] {0, -1, 101, Integer.MIN_VALUE, Integer.MAX_VALUE}) {
            Check.badArgument("most " + wrong, x, () -> x.race(0, true, 2, wrong));
        }
        looks("the most", x, 2, 100, 1);
        RelayBench none = new RelayBench();
        Check.badArgument("no switch at all", none, () -> none.race(0, true, 0, 1));
        none.knob(0, 2);
        looks("no relay at all", none, 0, 1, -1);
        Check.badArgument("one of no relays", none, () -> none.race(0, true, 1, 1));
    }
}
