import java.util.function.Consumer;

/** Promises 18 and 19: blown and fuse, and when the fuse is looked at. */
public final class FuseTest {
    public static void main(String[] args) {
        Check.runAll(FuseTest.class);
    }

    private static void looksOnly() {
        RelayBench x = Benches.shortNotLookedAt();
        Check.no("not looked at", x.blown());
        Check.yes("a whole fuse is not looked at", x.fuse());
        Check.same("MINUS is hot", x.node(1), 3);
        Check.same("PLUS is cold", x.node(0), 3);
        Check.same("lit as long as the fuse is whole", x.lit(), 1);
        Check.same("no coil between hot and cold", x.state(0, 2), 0);
        Check.yes("leads", x.leads(0, 1));
        Check.same("what it would come to", x.circle(9), 1001);
        Check.no("not looked at for good", x.blown());
    }

    private static void lookers() {
        looks("tick", x -> x.tick(1));
        looks("relay", x -> x.relay(5, 6, 1, 1));
        looks("contact", x -> x.contact(0, 0, 5, 6));
        looks("knob", x -> x.knob(5, 6));
        looks("diode", x -> x.diode(5, 6));
        looks("lamp", x -> x.lamp(5, 6));
        looks("turn that changes nothing", x -> x.turn(0, false));
        looks("turn", x -> x.turn(0, true));
        looks("dial that changes nothing", x -> x.dial(0, 1, 0));
        looks("dial of none", x -> x.dial(0, 0, 0));
        looks("settle", x -> x.settle(1));
    }

    private static void looks(String name, Consumer<RelayBench> deed) {
        RelayBench x = Benches.shortNotLookedAt();
        deed.accept(x);
        Check.yes("blown behind " + name, x.blown());
        Check.same("dark behind " + name, x.lit(), 0);
        Check.same("nodes do not ask the fuse", x.node(1), 3);
    }

    private static void buildingBlows() {
        RelayBench x = new RelayBench();
        x.contact(4, 0, 0, 7);
        Check.no("half a way", x.blown());
        x.contact(4, 0, 7, 1);
        Check.yes("a wire from PLUS to MINUS", x.blown());
        RelayBench y = new RelayBench();
        y.relay(0, 1, 1, 1);
        y.lamp(0, 1);
        y.knob(0, 1);
        Check.no("coils, lamps and open switches do not conduct", y.blown());
        Check.same("a lamp from PLUS to MINUS", y.lit(), 1);
        y.turn(0, true);
        Check.yes("a closed switch does", y.blown());
        Check.same("no current", y.lit() + y.state(0, 2), 0);
    }

    private static void diodesBlowOneWay() {
        RelayBench x = new RelayBench();
        x.diode(1, 0);
        Check.no("against the diode", x.blown());
        x.diode(0, 5);
        x.diode(5, 1);
        Check.yes("along the diodes", x.blown());
    }

    private static void newFuses() {
        RelayBench x = new RelayBench();
        x.knob(0, 1);
        x.lamp(0, 1);
        Check.yes("a whole one", x.fuse());
        x.turn(0, true);
        Check.yes("blown", x.blown());
        Check.no("a new one blows at once", x.fuse());
        Check.yes("blown again", x.blown());
        x.turn(0, false);
        Check.yes("a fuse does not heal", x.blown());
        Check.same("dark", x.lit(), 0);
        Check.yes("a new one holds", x.fuse());
        Check.no("whole", x.blown());
        Check.same("lit", x.lit(), 1);
        x.dial(0, 1, 1);
        Check.yes("blown by dial", x.blown());
        Check.same("fuse() is no tick", x.count(6), 0);
    }

    private static void blownStaysBlown() {
        RelayBench x = new RelayBench();
        x.knob(0, 1);
        x.relay(0, 1, 1, 2);
        x.tick(1);
        Check.same("up", x.ups(), 1);
        x.turn(0, true);
        x.turn(0, false);
        Check.same("falls without current", x.tick(9), 2);
        Check.same("down", x.ups(), 0);
        Check.yes("blown", x.blown());
        x.fuse();
        Check.same("rises again", x.tick(9), 1);
    }

    private static void blowsBeforeRelaysMove() {
        RelayBench x = new RelayBench();
        x.relay(0, 1, 1, 3);
        x.contact(0, 0, 0, 1);
        x.tick(1);
        Check.no("the short comes at the end of the tick", x.blown());
        Check.same("coil has current", x.state(0, 2), 1);
        x.tick(1);
        Check.yes("the next tick looks first", x.blown());
        Check.same("and so the relay falls in it", x.state(0, 0) * 10 + x.state(0, 1), 31);
        Check.yes("open again: a new fuse holds", x.fuse());
        x.tick(1);
        Check.same("up again", x.state(0, 0), 2);
    }
}
