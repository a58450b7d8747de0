import java.util.List;
import java.util.function.Consumer;
import java.util.function.Supplier;

/** The boundary cases of promises 1 to 6: a new bench, and the parts that come to it. */
public final class BoundsOfPartsTest {
    private static final int LEAST = Integer.MIN_VALUE;
    private static final int GREATEST = Integer.MAX_VALUE;
    private static final int[] NO_NODES = {-1, 48, LEAST, GREATEST};
    private static final int[] NO_TIMES = {0, 10, -1, LEAST, GREATEST};

    /** The kinds of part, in the order in which count() has them. */
    private enum Part {
        RELAY(16), CONTACT(64), KNOB(12), DIODE(24), LAMP(12);

        private final int most;

        Part(int most) {
            this.most = most;
        }

        int add(RelayBench x, int a, int b) {
            switch (this) {
                case RELAY:
                    return x.relay(a, b, 1, 1);
                case CONTACT:
                    return x.contact(4, 0, a, b);
                case KNOB:
                    return x.knob(a, b);
                case DIODE:
                    return x.diode(a, b);
                default:
                    return x.lamp(a, b);
            }
        }

        void fill(RelayBench x) {
            for (int k = x.count(ordinal()); k < most; k++) {
                add(x, 2 + k % 40, 3 + k % 40);
            }
        }
    }

    public static void main(String[] args) {
        Check.runAll(BoundsOfPartsTest.class);
    }

    // Promise 1: a new object.

    private static void p01_aNewBenchHasNoParts() {
        RelayBench x = new RelayBench();
        for (int what = 0; what <= 6; what++) {
            Check.same("count(" + what + ")", x.count(what), 0);
        }
        Check.same("ups()", x.ups(), 0);
        Check.same("lit()", x.lit(), 0);
    }

    private static void p01_aNewBenchHasAWholeFuse() {
        Check.no("blown()", new RelayBench().blown());
        Check.looks("fuse()", RelayBench::new, x -> x.fuse() ? 1 : 0, 1);
    }

    private static void p01_aNewBenchLeadsNowhere() {
        RelayBench x = new RelayBench();
        for (int k = 0; k < 48; k++) {
            Check.same("node(" + k + ")", x.node(k), k == 0 ? 1 : k == 1 ? 2 : 0);
            Check.yes("leads to itself", x.leads(k, k));
            Check.no("leads on", x.leads(k, (k + 1) % 48));
            Check.no("leads back", x.leads((k + 1) % 48, k));
        }
    }

    private static void p01_aNewBenchIsStill() {
        RelayBench x = new RelayBench();
        Check.same("settle(0)", x.settle(0), 0);
        Check.same("circle(1)", x.circle(1), 1000);
        Check.same("tick(1)", x.tick(1), 0);
        Check.same("tick(500)", x.tick(500), 0);
        Check.same("settle(500)", x.settle(500), 0);
        Check.same("circle(500)", x.circle(500), 1000);
        Check.same("ticks", x.count(6), 501);
    }

    private static void p01_aNewBenchRefusesWhatNeedsAPart() {
        refusedByANewBench("turn(0, true)", x -> x.turn(0, true));
        refusedByANewBench("turn(0, false)", x -> x.turn(0, false));
        refusedByANewBench("dial(0, 1, 0)", x -> x.dial(0, 1, 0));
        refusedByANewBench("race(0, true, 0, 1)", x -> x.race(0, true, 0, 1));
        refusedByANewBench("state(0, 0)", x -> x.state(0, 0));
    }

    private static void refusedByANewBench(String call, Consumer<RelayBench> body) {
        Check.badArgument(call, RelayBench::new, body);
    }

    private static void p01_benchesShareNothing() {
        List<String> due = Story.of(new RelayBench());
        RelayBench before = new RelayBench();
        Benches.full();
        Benches.blown();
        RelayBench behind = new RelayBench();
        Check.same("a bench from before another one", Story.of(before).toString(), due.toString());
        Check.same("a bench from behind another one", Story.of(behind).toString(), due.toString());
    }

    // Promise 2: relay.

    private static void p02_relayTakesTheNodesAtTheEnds() {
        takesTheNodesAtTheEnds(Part.RELAY);
        RelayBench x = new RelayBench();
        x.contact(4, 0, 0, 47);
        x.relay(47, 1, 1, 1);
        x.relay(1, 47, 1, 1);
        x.relay(0, 46, 1, 1);
        x.relay(46, 1, 1, 1);
        x.tick(1);
        Check.same("those between a hot and a cold node", x.ups(), 0b11);
    }

    private static void p02_relayRefusesOtherNodes() {
        refusesOtherNodes(Part.RELAY);
    }

    private static void p02_relayRefusesTheSameNodeTwice() {
        refusesTheSameNodeTwice(Part.RELAY);
    }

    private static void p02_relayTakesTimesFromOneToNine() {
        for (int pull : new int[] {1, 9}) {
            for (int drop : new int[] {1, 9}) {
                RelayBench x = new RelayBench();
                x.knob(0, 2);
                Check.same("pull " + pull + ", drop " + drop, x.relay(2, 1, pull, drop), 0);
                x.turn(0, true);
                Check.same("ticks to rise", x.settle(500), pull);
                Check.same("up", x.ups(), 1);
                x.turn(0, false);
                Check.same("ticks to fall", x.settle(500), drop);
                Check.same("down", x.ups(), 0);
            }
        }
    }

    private static void p02_relayRefusesOtherPulls() {
        for (int wrong : NO_TIMES) {
            Check.badEverywhere("pull " + wrong, x -> x.relay(2, 3, wrong, 1));
            Check.badEverywhere("pull " + wrong + " beside drop 9", x -> x.relay(2, 3, wrong, 9));
        }
    }

    private static void p02_relayRefusesOtherDrops() {
        for (int wrong : NO_TIMES) {
            Check.badEverywhere("drop " + wrong, x -> x.relay(2, 3, 1, wrong));
            Check.badEverywhere("drop " + wrong + " beside pull 9", x -> x.relay(2, 3, 9, wrong));
            Check.badEverywhere("both times " + wrong, x -> x.relay(2, 3, wrong, wrong));
        }
    }

    private static void p02_relayIsDownAtFirst() {
        RelayBench x = new RelayBench();
        x.relay(0, 1, 1, 1);
        Check.same("state", x.state(0, 0), 0);
        Check.same("count", x.state(0, 1), 0);
        Check.same("current, before any tick", x.state(0, 2), 1);
        Check.same("wear", x.state(0, 3), 0);
    }

    private static void p02_relayTakesSixteen() {
        takesTheMost(Part.RELAY);
    }

    private static void p02_relayRefusesTheSeventeenth() {
        refusesOneMore(Part.RELAY);
        Check.badState("longest times", () -> fullOf(Part.RELAY), x -> x.relay(2, 3, 9, 9));
    }

    private static void p02_relayAsksForRoomAmongRelaysAlone() {
        asksForItsOwnKindAlone(Part.RELAY);
    }

    private static void p02_relayThatIsRefusedDoesNotLookAtTheFuse() {
        refusedDoesNotLookAtTheFuse(Part.RELAY);
    }

    // Promise 3: contact.

    private static void p03_contactTakesTheNodesAtTheEnds() {
        takesTheNodesAtTheEnds(Part.CONTACT);
        RelayBench x = new RelayBench();
        x.contact(4, 0, 0, 47);
        x.contact(4, 0, 46, 1);
        Check.yes("from 0 to 47 and back", x.leads(0, 47) && x.leads(47, 0));
        Check.yes("from 46 to 1 and back", x.leads(46, 1) && x.leads(1, 46));
        Check.no("not further", x.leads(0, 1));
    }

    private static void p03_contactRefusesOtherNodes() {
        refusesOtherNodes(Part.CONTACT);
        for (int kind = 0; kind <= 3; kind++) {
            for (int wrong : NO_NODES) {
                int k = kind;
                Check.badEverywhere("kind " + k + " from " + wrong, x -> x.contact(k, 0, wrong, 2));
                Check.badEverywhere("kind " + k + " to " + wrong, x -> x.contact(k, 0, 2, wrong));
            }
        }
    }

    private static void p03_contactRefusesTheSameNodeTwice() {
        refusesTheSameNodeTwice(Part.CONTACT);
        for (int kind = 0; kind <= 3; kind++) {
            int k = kind;
            Check.badEverywhere("kind " + k + " from 7 to itself", x -> x.contact(k, 0, 7, 7));
        }
    }

    private static void p03_contactTakesKindsFromZeroToFour() {
        RelayBench x = new RelayBench();
        x.relay(2, 1, 1, 1);
        for (int kind = 0; kind <= 4; kind++) {
            Check.same("kind " + kind, x.contact(kind, 0, 0, 10 + kind), kind);
        }
        int[] due = {0, 1, 0, 1, 1};
        for (int kind = 0; kind <= 4; kind++) {
            Check.same("kind " + kind + " of a relay that is down", x.node(10 + kind), due[kind]);
        }
    }

    private static void p03_contactRefusesOtherKinds() {
        for (int wrong : new int[] {-1, 5, LEAST, GREATEST}) {
            Check.badEverywhere("kind " + wrong, x -> x.contact(wrong, 0, 2, 3));
        }
    }

    private static void p03_contactTakesRelaysFromTheFirstToTheLast() {
        for (int kind = 0; kind <= 3; kind++) {
            RelayBench x = new RelayBench();
            Part.RELAY.fill(x);
            for (int relay = 0; relay < 16; relay++) {
                Check.same("relay " + relay, x.contact(kind, relay, 2, 3), relay);
            }
        }
    }

    private static void p03_contactRefusesOtherRelays() {
        for (int kind = 0; kind <= 3; kind++) {
            int k = kind;
            for (int wrong : new int[] {-1, 16, LEAST, GREATEST}) {
                Check.badEverywhere("kind " + k + " of relay " + wrong, x -> x.contact(k, wrong, 2, 3));
            }
            Check.badArgument("kind " + k + " of no relay at all", RelayBench::new, x -> x.contact(k, 0, 2, 3));
            Check.badArgument("kind " + k + " behind the last relay", Benches::moving, x -> x.contact(k, 3, 2, 3));
            Check.badArgument("kind " + k + " behind the only relay", Benches::shortNotLookedAt,
                    x -> x.contact(k, 1, 2, 3));
        }
    }

    private static void p03_wireTakesAnyRelay() {
        int[] any = {LEAST, -1, 0, 1, 15, 16, 31, 32, GREATEST};
        RelayBench x = new RelayBench();
        for (int k = 0; k < any.length; k++) {
            Check.same("wire of relay " + any[k], x.contact(4, any[k], 2 + k, 3 + k), k);
        }
        Check.yes("all of them conduct", x.leads(2, 2 + any.length) && x.leads(2 + any.length, 2));
        Check.same("all of them are counted", x.count(5), any.length);
    }

    private static void p03_wireDoesNotCareForItsRelay() {
        RelayBench x = new RelayBench();
        x.relay(0, 1, 2, 1);
        x.contact(4, 0, 2, 3);
        for (int k = 0; k < 3; k++) {
            Check.yes("behind " + k + " ticks", x.leads(2, 3) && x.leads(3, 2));
            x.tick(1);
        }
    }

    private static void p03_contactTakesSixtyFour() {
        takesTheMost(Part.CONTACT);
    }

    private static void p03_contactRefusesTheSixtyFifth() {
        refusesOneMore(Part.CONTACT);
        for (int kind = 0; kind <= 4; kind++) {
            int k = kind;
            Check.badState("kind " + k + " of the first relay", Benches::full, x -> x.contact(k, 0, 2, 3));
            Check.badState("kind " + k + " of the last relay", Benches::full, x -> x.contact(k, 15, 2, 3));
        }
        Check.badState("a wire of any relay", Benches::full, x -> x.contact(4, LEAST, 2, 3));
    }

    private static void p03_contactAsksForRoomAmongContactsAlone() {
        asksForItsOwnKindAlone(Part.CONTACT);
    }

    private static void p03_contactThatIsRefusedDoesNotLookAtTheFuse() {
        refusedDoesNotLookAtTheFuse(Part.CONTACT);
    }

    // Promise 4: knob.

    private static void p04_knobTakesTheNodesAtTheEnds() {
        takesTheNodesAtTheEnds(Part.KNOB);
        RelayBench x = new RelayBench();
        x.knob(0, 47);
        x.knob(46, 1);
        Check.no("open at first", x.leads(0, 47) || x.leads(47, 0) || x.leads(46, 1) || x.leads(1, 46));
        x.turn(0, true);
        x.turn(1, true);
        Check.yes("closed, both ways", x.leads(0, 47) && x.leads(47, 0) && x.leads(46, 1) && x.leads(1, 46));
    }

    private static void p04_knobRefusesOtherNodes() {
        refusesOtherNodes(Part.KNOB);
    }

    private static void p04_knobRefusesTheSameNodeTwice() {
        refusesTheSameNodeTwice(Part.KNOB);
    }

    private static void p04_knobTakesTwelve() {
        takesTheMost(Part.KNOB);
    }

    private static void p04_knobRefusesTheThirteenth() {
        refusesOneMore(Part.KNOB);
    }

    private static void p04_knobAsksForRoomAmongSwitchesAlone() {
        asksForItsOwnKindAlone(Part.KNOB);
    }

    private static void p04_knobThatIsRefusedDoesNotLookAtTheFuse() {
        refusedDoesNotLookAtTheFuse(Part.KNOB);
    }

    // Promise 5: diode.

    private static void p05_diodeTakesTheNodesAtTheEnds() {
        takesTheNodesAtTheEnds(Part.DIODE);
        RelayBench x = new RelayBench();
        x.diode(0, 47);
        x.diode(1, 46);
        Check.yes("along", x.leads(0, 47) && x.leads(1, 46));
        Check.no("against", x.leads(47, 0) || x.leads(46, 1));
    }

    private static void p05_diodeRefusesOtherNodes() {
        refusesOtherNodes(Part.DIODE);
    }

    private static void p05_diodeRefusesTheSameNodeTwice() {
        refusesTheSameNodeTwice(Part.DIODE);
    }

    private static void p05_diodeTakesTwentyFour() {
        takesTheMost(Part.DIODE);
    }

    private static void p05_diodeRefusesTheTwentyFifth() {
        refusesOneMore(Part.DIODE);
    }

    private static void p05_diodeAsksForRoomAmongDiodesAlone() {
        asksForItsOwnKindAlone(Part.DIODE);
    }

    private static void p05_diodeThatIsRefusedDoesNotLookAtTheFuse() {
        refusedDoesNotLookAtTheFuse(Part.DIODE);
    }

    // Promise 6: lamp.

    private static void p06_lampTakesTheNodesAtTheEnds() {
        takesTheNodesAtTheEnds(Part.LAMP);
        RelayBench x = new RelayBench();
        x.contact(4, 0, 0, 47);
        x.lamp(47, 1);
        x.lamp(1, 47);
        x.lamp(47, 46);
        x.lamp(0, 1);
        x.lamp(1, 0);
        Check.same("those between a hot and a cold node", x.lit(), 0b11011);
    }

    private static void p06_lampRefusesOtherNodes() {
        refusesOtherNodes(Part.LAMP);
    }

    private static void p06_lampRefusesTheSameNodeTwice() {
        refusesTheSameNodeTwice(Part.LAMP);
    }

    private static void p06_lampTakesTwelve() {
        takesTheMost(Part.LAMP);
    }

    private static void p06_lampRefusesTheThirteenth() {
        refusesOneMore(Part.LAMP);
    }

    private static void p06_lampAsksForRoomAmongLampsAlone() {
        asksForItsOwnKindAlone(Part.LAMP);
    }

    private static void p06_lampThatIsRefusedDoesNotLookAtTheFuse() {
        refusedDoesNotLookAtTheFuse(Part.LAMP);
    }

    // What the kinds have in common.

    private static RelayBench fullOf(Part part) {
        RelayBench x = new RelayBench();
        part.fill(x);
        return x;
    }

    private static void takesTheNodesAtTheEnds(Part part) {
        RelayBench x = new RelayBench();
        int[][] ends = {{0, 1}, {1, 0}, {0, 47}, {47, 0}, {46, 47}, {47, 46}};
        for (int k = 0; k < ends.length; k++) {
            Check.same(part + " between " + ends[k][0] + " and " + ends[k][1],
                    part.add(x, ends[k][0], ends[k][1]), k);
        }
    }

    private static void refusesOtherNodes(Part part) {
        for (int wrong : NO_NODES) {
            Check.badEverywhere(part + " from " + wrong, x -> part.add(x, wrong, 2));
            Check.badEverywhere(part + " to " + wrong, x -> part.add(x, 2, wrong));
            Check.badEverywhere(part + " from and to " + wrong, x -> part.add(x, wrong, wrong));
        }
    }

    private static void refusesTheSameNodeTwice(Part part) {
        for (int node : new int[] {0, 1, 2, 46, 47}) {
            Check.badEverywhere(part + " from " + node + " to itself", x -> part.add(x, node, node));
        }
    }

    private static void takesTheMost(Part part) {
        RelayBench x = new RelayBench();
        for (int k = 0; k < part.most; k++) {
            Check.same(part + " numbers", part.add(x, 2 + k % 40, 3 + k % 40), k);
            Check.same(part + " counted", x.count(part.ordinal()), k + 1);
        }
        for (Part other : Part.values()) {
            Check.same(other + " among " + part, x.count(other.ordinal()), other == part ? part.most : 0);
        }
    }

    private static void refusesOneMore(Part part) {
        Supplier<RelayBench> maker = () -> fullOf(part);
        Check.badState(part + " one too many", maker, x -> part.add(x, 2, 3));
        Check.badState(part + " one too many, at the ends", maker, x -> part.add(x, 47, 0));
        Check.badState(part + " of a full bench", Benches::full, x -> part.add(x, 2, 3));
        RelayBench x = fullOf(part);
        for (int again = 0; again < 3; again++) {
            Check.yes(part + " is refused again", isRefused(x, part));
            Check.same(part + " counted", x.count(part.ordinal()), part.most);
        }
    }

    private static boolean isRefused(RelayBench x, Part part) {
        try {
            part.add(x, 2, 3);
        } catch (IllegalStateException e) {
            return true;
        }
        return false;
    }

    private static void asksForItsOwnKindAlone(Part part) {
        RelayBench x = new RelayBench();
        for (Part other : Part.values()) {
            if (other != part) {
                other.fill(x);
            }
        }
        for (int k = 0; k < part.most; k++) {
            Check.same(part + " beside all others", part.add(x, 2, 3), k);
        }
    }

    /** MINUS is hot, so the fuse would blow if it were looked at. */
    private static void refusedDoesNotLookAtTheFuse(Part part) {
        Supplier<RelayBench> maker = () -> Benches.shortNotLookedAt(part::fill);
        Check.same("MINUS", maker.get().node(1), 3);
        Check.no("blown", maker.get().blown());
        Check.same("full", maker.get().count(part.ordinal()), part.most);
        Check.badState(part + " of a full bench with a short", maker, x -> part.add(x, 2, 3));
        Check.badArgument(part + " between wrong nodes with a short", maker, x -> part.add(x, 2, 48));
    }
}
