import java.util.function.Supplier;

/** The boundary cases of promises 13 to 20: what is seen of a bench, and its fuse. */
public final class BoundsOfLooksTest {
    private static final int LEAST = Integer.MIN_VALUE;
    private static final int GREATEST = Integer.MAX_VALUE;

    public static void main(String[] args) {
        Check.runAll(BoundsOfLooksTest.class);
    }

    /** So many relays between PLUS and MINUS. */
    private static Supplier<RelayBench> relays(int many) {
        return () -> {
            RelayBench x = new RelayBench();
            for (int r = 0; r < many; r++) {
                x.relay(0, 1, 1, 1);
            }
            return x;
        };
    }

    // Promise 13: state.

    private static void p13_stateTakesTheFirstAndTheLastRelay() {
        for (int many : new int[] {1, 2, 15, 16}) {
            for (int relay : new int[] {0, many - 1}) {
                int[] due = {0, 0, 1, 0};
                for (int k = 0; k <= 3; k++) {
                    int what = k;
                    Check.looks("state(" + relay + ", " + what + ")", relays(many), x -> x.state(relay, what),
                            due[what]);
                }
            }
        }
    }

    private static void p13_stateRefusesTheRelayBehindTheLast() {
        for (int many : new int[] {0, 1, 2, 15, 16}) {
            for (int k = 0; k <= 3; k++) {
                int what = k;
                Check.badArgument("state(" + many + ", " + what + ")", relays(many), x -> x.state(many, what));
            }
        }
    }

    private static void p13_stateRefusesWhatIsNoRelayAtAll() {
        for (int wrong : new int[] {-1, 16, 32, LEAST, GREATEST}) {
            for (int k = 0; k <= 3; k++) {
                int what = k;
                Check.badEverywhere("state(" + wrong + ", " + what + ")", x -> x.state(wrong, what));
            }
        }
    }

    private static void p13_stateRefusesAnotherWhat() {
        for (int wrong : new int[] {-1, 4, LEAST, GREATEST}) {
            Check.badEverywhere("state(0, " + wrong + ")", x -> x.state(0, wrong));
            Check.badArgument("state(15, " + wrong + ")", Benches::full, x -> x.state(15, wrong));
            Check.badEverywhere("state(16, " + wrong + ")", x -> x.state(16, wrong));
        }
    }

    /** What 0 and 1 of the only relay, as two digits. */
    private static int shown(RelayBench x) {
        return x.state(0, 0) * 10 + x.state(0, 1);
    }

    private static void p13_stateCountsUpToOneBelowTheLongestTimes() {
        RelayBench x = new RelayBench();
        x.knob(0, 2);
        x.relay(2, 1, 9, 9);
        x.turn(0, true);
        x.tick(8);
        Check.same("rising", shown(x), 18);
        x.tick(1);
        Check.same("up, count 0", shown(x), 20);
        x.turn(0, false);
        x.tick(8);
        Check.same("falling", shown(x), 38);
        x.tick(1);
        Check.same("down, count 0", shown(x), 0);
    }

    private static void p13_stateCountsNothingForTheShortestTimes() {
        RelayBench x = new RelayBench();
        x.knob(0, 2);
        x.relay(2, 1, 1, 1);
        x.turn(0, true);
        x.tick(1);
        Check.same("up at once", shown(x), 20);
        x.turn(0, false);
        x.tick(1);
        Check.same("down at once", shown(x), 0);
    }

    private static void p13_stateHasCountZeroWhenTurnedBack() {
        RelayBench x = new RelayBench();
        x.knob(0, 2);
        x.relay(2, 1, 9, 9);
        x.turn(0, true);
        x.tick(8);
        x.turn(0, false);
        x.tick(1);
        Check.same("from rising to down", shown(x), 0);
        Check.same("not worn", x.state(0, 3), 0);
        x.turn(0, true);
        x.tick(9);
        x.turn(0, false);
        x.tick(8);
        x.turn(0, true);
        x.tick(1);
        Check.same("from falling to up", shown(x), 20);
        Check.same("worn by the way from rising alone", x.state(0, 3), 1);
    }

    private static void p13_stateHasNoCurrentWithoutTheFuse() {
        RelayBench x = relays(1).get();
        x.knob(0, 1);
        Check.same("whole", x.state(0, 2), 1);
        x.turn(0, true);
        Check.same("blown", x.state(0, 2), 0);
        x.turn(0, false);
        Check.same("blown for good", x.state(0, 2), 0);
        x.fuse();
        Check.same("a new fuse", x.state(0, 2), 1);
    }

    /** A short makes hot and cold of both PLUS and MINUS; a dead node stays dead. */
    private static void p13_stateHasCurrentInAShortThatTheFuseDoesNotKnow() {
        RelayBench x = Benches.shortNotLookedAt(y -> {
            y.relay(0, 1, 1, 1);
            y.relay(0, 40, 1, 1);
            y.relay(40, 1, 1, 1);
        });
        int[] due = {0, 1, 0, 0};
        for (int r = 0; r < 4; r++) {
            Check.same("current of " + r, x.state(r, 2), due[r]);
        }
    }

    // Promise 14: ups.

    private static void p14_upsOfNoneAndOfAll() {
        Check.looks("no relays", RelayBench::new, RelayBench::ups, 0);
        Check.looks("none is up", relays(16), RelayBench::ups, 0);
        Check.looks("all are up", Benches.then(relays(16), x -> x.tick(1)), RelayBench::ups, 65535);
    }

    private static void p14_upsOfTheFirstAndTheLastRelay() {
        for (int up : new int[] {0, 15}) {
            RelayBench x = new RelayBench();
            for (int r = 0; r < 16; r++) {
                x.relay(r == up ? 0 : 2, 1, 1, 1);
            }
            x.tick(1);
            Check.same("relay " + up, x.ups(), 1 << up);
        }
    }

    private static void p14_upsLeavesOutRisingAndFallingOnes() {
        RelayBench x = new RelayBench();
        x.knob(0, 2);
        x.relay(2, 1, 2, 2);
        x.turn(0, true);
        x.tick(1);
        Check.same("rising", x.ups(), 0);
        x.tick(1);
        Check.same("up", x.ups(), 1);
        x.turn(0, false);
        Check.same("up, without current", x.ups(), 1);
        x.tick(1);
        Check.same("falling", x.ups(), 0);
    }

    // Promise 15: lit.

    private static RelayBench lamps() {
        RelayBench x = new RelayBench();
        for (int k = 0; k < 12; k++) {
            x.knob(0, 10 + k);
            x.lamp(10 + k, 1);
        }
        return x;
    }

    private static void p15_litOfNoneAndOfAll() {
        Check.looks("no lamps", RelayBench::new, RelayBench::lit, 0);
        Check.looks("none is lit", BoundsOfLooksTest::lamps, RelayBench::lit, 0);
        Check.looks("all are lit", Benches.then(BoundsOfLooksTest::lamps, x -> x.dial(0, 12, -1)),
                RelayBench::lit, 4095);
    }

    private static void p15_litOfTheFirstAndTheLastLamp() {
        for (int k : new int[] {0, 11}) {
            RelayBench x = lamps();
            x.turn(k, true);
            Check.same("lamp " + k, x.lit(), 1 << k);
        }
    }

    private static void p15_litIsDarkWithoutTheFuse() {
        RelayBench x = new RelayBench();
        x.lamp(0, 1);
        x.knob(0, 1);
        Check.same("whole", x.lit(), 1);
        x.turn(0, true);
        Check.same("blown", x.lit(), 0);
        x.turn(0, false);
        Check.same("blown for good", x.lit(), 0);
        x.fuse();
        Check.same("a new fuse", x.lit(), 1);
    }

    private static void p15_litInAShortThatTheFuseDoesNotKnow() {
        Check.looks("lit()", Benches::shortNotLookedAt, RelayBench::lit, 1);
    }

    // Promise 16: node.

    private static void p16_nodeTakesTheFirstAndTheLast() {
        Check.looks("node(0)", RelayBench::new, x -> x.node(0), 1);
        Check.looks("node(1)", RelayBench::new, x -> x.node(1), 2);
        Check.looks("node(47)", RelayBench::new, x -> x.node(47), 0);
        RelayBench hot = new RelayBench();
        hot.diode(0, 47);
        Check.same("hot", hot.node(47), 1);
        Check.same("PLUS is not cold by this", hot.node(0), 1);
        RelayBench cold = new RelayBench();
        cold.diode(47, 1);
        Check.same("cold", cold.node(47), 2);
        Check.same("MINUS is not hot by this", cold.node(1), 2);
        cold.diode(0, 47);
        Check.same("both", cold.node(47), 3);
    }

    private static void p16_nodeRefusesOthers() {
        for (int wrong : new int[] {-1, 48, 63, 64, -48, LEAST, GREATEST}) {
            Check.badEverywhere("node(" + wrong + ")", x -> x.node(wrong));
        }
    }

    private static void p16_nodeDoesNotAskTheFuse() {
        RelayBench x = new RelayBench();
        x.contact(4, 0, 0, 47);
        x.contact(4, 0, 47, 1);
        Check.yes("blown", x.blown());
        for (int k : new int[] {0, 1, 47}) {
            Check.same("node(" + k + ")", x.node(k), 3);
        }
        Check.same("a node beside", x.node(46), 0);
    }

    // Promise 17: leads.

    private static void p17_leadsTakesTheFirstAndTheLast() {
        RelayBench x = new RelayBench();
        x.diode(0, 47);
        Check.yes("leads(0, 47)", x.leads(0, 47));
        Check.no("leads(47, 0)", x.leads(47, 0));
        Check.no("leads(0, 1)", x.leads(0, 1));
        Check.no("leads(46, 47)", x.leads(46, 47));
    }

    private static void p17_leadsFromEachNodeToItself() {
        Benches.ALL.forEach((name, maker) -> {
            RelayBench x = maker.get();
            for (int k = 0; k < 48; k++) {
                Check.yes("leads(" + k + ", " + k + ") when " + name, x.leads(k, k));
            }
        });
    }

    private static void p17_leadsRefusesOtherNodes() {
        for (int wrong : new int[] {-1, 48, 63, 64, LEAST, GREATEST}) {
            for (int right : new int[] {0, 47}) {
                Check.badEverywhere("leads(" + wrong + ", " + right + ")", x -> x.leads(wrong, right));
                Check.badEverywhere("leads(" + right + ", " + wrong + ")", x -> x.leads(right, wrong));
            }
            Check.badEverywhere("leads(" + wrong + ") to itself", x -> x.leads(wrong, wrong));
        }
    }

    /** All 48 nodes in a row: 47 wires, the longest way that there is. */
    private static void p17_leadsThroughAllNodes() {
        RelayBench x = new RelayBench();
        for (int k = 0; k < 47; k++) {
            x.contact(4, 0, (k * 7 + 2) % 48, (k * 7 + 9) % 48);
        }
        int last = (47 * 7 + 2) % 48;
        Check.yes("onward", x.leads(2, last));
        Check.yes("back", x.leads(last, 2));
        Check.yes("blown by the way", x.blown());
    }

    private static void p17_leadsDoesNotGoThroughCoilsAndLamps() {
        RelayBench x = new RelayBench();
        x.relay(2, 3, 1, 1);
        x.lamp(2, 3);
        x.knob(2, 3);
        Check.no("a coil, a lamp, an open switch", x.leads(2, 3) || x.leads(3, 2));
    }

    // Promise 18: blown.

    private static void p18_blownOfANewBench() {
        Check.looks("blown()", RelayBench::new, x -> x.blown() ? 1 : 0, 0);
    }

    private static void p18_blownDoesNotLookAtTheFuse() {
        Check.looks("blown()", Benches::shortNotLookedAt, x -> x.blown() ? 1 : 0, 0);
    }

    private static void p18_blownStaysSo() {
        Check.looks("blown()", Benches::blown, x -> x.blown() ? 1 : 0, 1);
        RelayBench x = Benches.blown();
        x.tick(500);
        x.turn(2, false);
        x.dial(0, 3, 0);
        x.lamp(2, 3);
        Check.yes("behind all that looks at it", x.blown());
    }

    // Promise 19: fuse.

    private static void p19_fuseThatIsWholeIsNotLookedAt() {
        Check.looks("fuse()", RelayBench::new, x -> x.fuse() ? 1 : 0, 1);
        Check.looks("fuse()", Benches::moving, x -> x.fuse() ? 1 : 0, 1);
        Check.looks("fuse() in a short", Benches::shortNotLookedAt, x -> x.fuse() ? 1 : 0, 1);
    }

    private static void p19_fuseThatBlowsAtOnce() {
        Supplier<RelayBench> maker = Benches.then(RelayBench::new, x -> x.contact(4, 0, 0, 1));
        Check.looks("fuse()", maker, x -> x.fuse() ? 1 : 0, 0);
        RelayBench x = maker.get();
        Check.no("and again", x.fuse() || x.fuse());
        Check.yes("blown()", x.blown());
    }

    private static void p19_fuseThatHolds() {
        RelayBench x = Benches.blown();
        Check.yes("fuse()", x.fuse());
        Check.no("blown()", x.blown());
        Check.yes("fuse() again", x.fuse());
        Check.same("no tick", x.count(6), 6);
    }

    // Promise 20: count.

    private static void p20_countOfAnEmptyBench() {
        for (int k = 0; k <= 6; k++) {
            int what = k;
            Check.looks("count(" + what + ")", RelayBench::new, x -> x.count(what), 0);
        }
    }

    private static void p20_countOfAFullBench() {
        int[] due = {16, 64, 12, 24, 12};
        for (int k = 0; k <= 4; k++) {
            int what = k;
            Check.looks("count(" + what + ")", Benches::full, x -> x.count(what), due[what]);
        }
        Check.looks("ticks", Benches::full, x -> x.count(6), 4);
    }

    private static void p20_countOfAnotherWhat() {
        for (int what : new int[] {-1, 7, 8, LEAST, GREATEST}) {
            Benches.ALL.forEach((name, maker) ->
                    Check.looks("count(" + what + ") when " + name, maker, x -> x.count(what), -1));
        }
    }

    private static void p20_countOfContactsThatConductFromNoneToAll() {
        for (int kind = 0; kind <= 4; kind++) {
            RelayBench x = new RelayBench();
            x.relay(0, 1, 2, 1);
            for (int c = 0; c < 64; c++) {
                x.contact(kind, 0, 2, 3);
            }
            int[] down = {0, 64, 0, 64, 64};
            int[] rising = {0, 0, 64, 64, 64};
            int[] up = {64, 0, 64, 0, 64};
            Check.same("down, kind " + kind, x.count(5), down[kind]);
            x.tick(1);
            Check.same("rising, kind " + kind, x.count(5), rising[kind]);
            x.tick(1);
            Check.same("up, kind " + kind, x.count(5), up[kind]);
        }
    }

    private static void p20_countOfTicksLeavesOutThoseThatWereNotDone() {
        RelayBench x = Benches.moving();
        Check.same("tick(5)", x.count(6), 5);
        x.circle(500);
        x.race(0, false, 3, 100);
        Check.same("circle() and race()", x.count(6), 5);
        RelayBench y = Benches.chain(9);
        y.turn(0, true);
        y.settle(500);
        Check.same("settle()", y.count(6), 9);
        y.tick(500);
        Check.same("ticks that changed nothing", y.count(6), 509);
    }
}
