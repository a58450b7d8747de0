import java.util.function.Supplier;

/** The boundary cases of promises 7 and 8: turn and dial. */
public final class BoundsOfSwitchesTest {
    private static final int LEAST = Integer.MIN_VALUE;
    private static final int GREATEST = Integer.MAX_VALUE;
    private static final int[] ANY_BITS = {0, 1, -1, LEAST, GREATEST};

    public static void main(String[] args) {
        Check.runAll(BoundsOfSwitchesTest.class);
    }

    /** Switch k lies between PLUS and node 10 + k; every second one is closed. */
    private static RelayBench benchOf(int many) {
        RelayBench x = new RelayBench();
        for (int k = 0; k < many; k++) {
            x.knob(0, 10 + k);
            x.turn(k, k % 2 == 1);
        }
        return x;
    }

    private static Supplier<RelayBench> makerOf(int many) {
        return () -> benchOf(many);
    }

    private static int closed(RelayBench x) {
        int bits = 0;
        int many = x.count(2);
        for (int k = 0; k < many; k++) {
            bits |= x.leads(10 + k, 0) ? 1 << k : 0;
        }
        return bits;
    }

    private static void dialLeaves(int knobs, int first, int many, int bits, int due) {
        RelayBench x = benchOf(knobs);
        x.dial(first, many, bits);
        Check.same("dial(" + first + ", " + many + ", " + bits + ") of " + knobs, closed(x), due);
    }

    private static void dialRefused(int knobs, int first, int many) {
        for (int bits : ANY_BITS) {
            Check.badArgument("dial(" + first + ", " + many + ", " + bits + ") of " + knobs, makerOf(knobs),
                    x -> x.dial(first, many, bits));
        }
    }

    private static void dialRefusedEverywhere(int first, int many) {
        for (int bits : ANY_BITS) {
            Check.badEverywhere("dial(" + first + ", " + many + ", " + bits + ")", x -> x.dial(first, many, bits));
        }
    }

    // Promise 7: turn.

    private static void p07_turnTakesTheFirstAndTheLastSwitch() {
        for (int many : new int[] {1, 2, 11, 12}) {
            RelayBench x = benchOf(many);
            int before = closed(x);
            x.turn(0, true);
            x.turn(many - 1, true);
            Check.same("closed of " + many, closed(x), before | 1 | 1 << many - 1);
            x.turn(0, false);
            x.turn(many - 1, false);
            Check.same("opened of " + many, closed(x), before & ~(1 | 1 << many - 1));
        }
    }

    private static void p07_turnRefusesTheOneBehindTheLast() {
        for (int many : new int[] {0, 1, 2, 11, 12}) {
            Check.badArgument("turn(" + many + ", true)", makerOf(many), x -> x.turn(many, true));
            Check.badArgument("turn(" + many + ", false)", makerOf(many), x -> x.turn(many, false));
        }
    }

    private static void p07_turnRefusesWhatIsNoSwitchAtAll() {
        for (int wrong : new int[] {-1, 12, 32, LEAST, GREATEST}) {
            Check.badEverywhere("turn(" + wrong + ", true)", x -> x.turn(wrong, true));
            Check.badEverywhere("turn(" + wrong + ", false)", x -> x.turn(wrong, false));
        }
    }

    private static void p07_turnTellsWhetherItWasAnotherWay() {
        RelayBench x = new RelayBench();
        x.knob(0, 2);
        Check.no("opened, though open at first", x.turn(0, false));
        Check.yes("closed", x.turn(0, true));
        Check.no("closed again", x.turn(0, true));
        Check.yes("opened", x.turn(0, false));
        Check.no("opened again", x.turn(0, false));
    }

    private static void p07_turnOfTheSameWayChangesNothing() {
        Check.looks("closed again", Benches::moving, x -> x.turn(0, true) ? 1 : 0, 0);
        Check.looks("opened again", Benches::moving, x -> x.turn(1, false) ? 1 : 0, 0);
    }

    private static void p07_turnLooksAtTheFuseThoughItChangesNothing() {
        RelayBench x = Benches.shortNotLookedAt();
        Check.no("not another way", x.turn(0, false));
        Check.yes("blown", x.blown());
    }

    // Promise 8: dial.

    private static void p08_dialOfNoneTakesEachPlace() {
        for (int many : new int[] {0, 1, 5, 12}) {
            int before = closed(benchOf(many));
            for (int first = 0; first <= many; first++) {
                for (int bits : ANY_BITS) {
                    dialLeaves(many, first, 0, bits, before);
                }
            }
        }
    }

    private static void p08_dialOfNoneRefusesOtherPlaces() {
        for (int many : new int[] {0, 1, 5, 12}) {
            dialRefused(many, many + 1, 0);
        }
        for (int first : new int[] {-1, 13, LEAST, GREATEST}) {
            dialRefusedEverywhere(first, 0);
        }
    }

    private static void p08_dialOfNoneLooksAtTheFuse() {
        for (int first : new int[] {0, 1}) {
            RelayBench x = Benches.shortNotLookedAt();
            x.dial(first, 0, 0);
            Check.yes("blown", x.blown());
        }
    }

    private static void p08_dialTakesAllOfThem() {
        dialLeaves(1, 0, 1, 1, 1);
        dialLeaves(5, 0, 5, 0b11001, 0b11001);
        dialLeaves(12, 0, 12, 0b100000000001, 0b100000000001);
        dialLeaves(12, 0, 12, 0xfff, 0xfff);
        dialLeaves(12, 0, 12, 0, 0);
    }

    private static void p08_dialTakesTheLastOnes() {
        dialLeaves(5, 4, 1, 1, 0b11010);
        dialLeaves(5, 3, 2, 0b10, 0b10010);
        dialLeaves(12, 11, 1, 0, 0b001010101010);
        dialLeaves(12, 6, 6, 0b010101, 0b010101101010);
    }

    private static void p08_dialLeavesTheOthersAlone() {
        dialLeaves(12, 4, 4, 0b0101, 0b101001011010);
        dialLeaves(12, 0, 1, 1, 0b101010101011);
        dialLeaves(12, 10, 1, 1, 0b111010101010);
    }

    private static void p08_dialDoesNotAskForHigherBits() {
        dialLeaves(12, 0, 12, -1, 0xfff);
        dialLeaves(12, 0, 12, GREATEST, 0xfff);
        dialLeaves(12, 0, 12, LEAST, 0);
        dialLeaves(12, 0, 12, 0x1000, 0);
        dialLeaves(12, 0, 1, 0b10, 0b101010101010);
        dialLeaves(12, 11, 1, 0b10, 0b001010101010);
        dialLeaves(12, 2, 2, ~0b11, 0b101010100010);
    }

    private static void p08_dialRefusesOneTooMany() {
        for (int many : new int[] {0, 1, 5, 12}) {
            dialRefused(many, 0, many + 1);
            dialRefused(many, many, 1);
        }
        dialRefused(5, 4, 2);
        dialRefused(5, 1, 5);
        dialRefused(12, 11, 2);
        dialRefused(12, 1, 12);
    }

    private static void p08_dialRefusesFewerThanNone() {
        for (int many : new int[] {-1, -12, LEAST}) {
            for (int first : new int[] {0, 1, 3, 12}) {
                dialRefusedEverywhere(first, many);
            }
        }
    }

    private static void p08_dialRefusesAPlaceBelowTheFirst() {
        for (int many : new int[] {0, 1, 2, 12, 13}) {
            dialRefusedEverywhere(-1, many);
            dialRefusedEverywhere(LEAST, many);
        }
    }

    /** The sum of both numbers wraps around to one that would be taken. */
    private static void p08_dialRefusesSumsThatWrapAround() {
        int[][] wrong = {
            {GREATEST, 1}, {1, GREATEST}, {GREATEST, GREATEST}, {GREATEST, 2}, {2, GREATEST},
            {LEAST, LEAST}, {LEAST, GREATEST}, {GREATEST, LEAST}, {LEAST, 1}, {1, LEAST}, {LEAST, -1},
            {-1, LEAST}, {13, -1}, {-1, 2}, {12, -12},
        };
        for (int[] w : wrong) {
            dialRefusedEverywhere(w[0], w[1]);
        }
    }

    private static void p08_dialLooksAtTheFuseThoughItChangesNothing() {
        RelayBench x = Benches.shortNotLookedAt();
        x.dial(0, 1, 0);
        Check.yes("blown", x.blown());
    }

    /** Two switches in a row change places; one after the other they would be closed both. */
    private static void p08_dialClosesAllAtOnce() {
        RelayBench x = new RelayBench();
        x.knob(0, 2);
        x.knob(2, 1);
        x.dial(0, 2, 0b10);
        x.dial(0, 2, 0b01);
        Check.no("first closed, second opened", x.blown());
        x.dial(0, 2, 0b10);
        Check.no("first opened, second closed", x.blown());
        x.dial(0, 2, 0b11);
        Check.yes("both closed", x.blown());
    }
}
