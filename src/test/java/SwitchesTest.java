/** Promises 7 and 8: turn and dial. */
public final class SwitchesTest {
    public static void main(String[] args) {
        turns();
        dials();
        wrongDials();
        Check.end();
    }

    /** Switch k lies between PLUS and node 10 + k. */
    private static RelayBench benchOf(int many) {
        RelayBench x = new RelayBench();
        for (int k = 0; k < many; k++) {
            x.knob(0, 10 + k);
        }
        return x;
    }

    private static int closed(RelayBench x) {
        int bits = 0;
        for (int k = 0; k < x.count(2); k++) {
            bits |= x.leads(10 + k, 0) ? 1 << k : 0;
        }
        return bits;
    }

    private static void turns() {
        RelayBench x = new RelayBench();
        Check.badArgument("no switch at all", x, () -> x.turn(0, true));
        RelayBench y = benchOf(12);
        Check.same("open at first", closed(y), 0);
        Check.no("opened again", y.turn(3, false));
        Check.yes("closed", y.turn(3, true));
        Check.no("closed again", y.turn(3, true));
        Check.yes("the last one closed", y.turn(11, true));
        Check.same("closed ones", closed(y), 1 << 3 | 1 << 11);
        Check.yes("both ways", y.leads(0, 13) && y.leads(13, 0));
        Check.yes("opened", y.turn(3, false));
        Check.same("closed ones", closed(y), 1 << 11);
        for (int wrong : new int[] {-1, 12, 32, Integer.MIN_VALUE, Integer.MAX_VALUE}) {
            Check.badArgument("turn(" + wrong + ")", y, () -> y.turn(wrong, true));
        }
    }

    private static void dials() {
        RelayBench x = benchOf(12);
        x.dial(0, 12, 0b101100111001);
        Check.same("all twelve", closed(x), 0b101100111001);
        x.dial(4, 3, 0b1010);
        Check.same("three of them, higher bits do not count", closed(x), 0b101100101001);
        x.dial(11, 1, 0);
        Check.same("the last one", closed(x), 0b001100101001);
        x.dial(0, 12, -1);
        Check.same("all bits", closed(x), 0xfff);
        x.dial(2, 5, 0x40000000);
        Check.same("opened", closed(x), 0xf83);
        x.dial(5, 0, -1);
        x.dial(0, 0, -1);
        x.dial(12, 0, -1);
        Check.same("none of them", closed(x), 0xf83);
        new RelayBench().dial(0, 0, 7);
    }

    private static void wrongDials() {
        RelayBench x = benchOf(5);
        x.dial(0, 5, 0b10110);
        int[][] wrong = {
            {-1, 1}, {-1, 0}, {0, 6}, {5, 1}, {4, 2}, {1, 5}, {0, -1}, {3, -1}, {6, 0},
            {Integer.MAX_VALUE, 1}, {1, Integer.MAX_VALUE}, {Integer.MAX_VALUE, Integer.MAX_VALUE},
            {Integer.MIN_VALUE, 1}, {1, Integer.MIN_VALUE}, {Integer.MIN_VALUE, Integer.MIN_VALUE},
            {Integer.MIN_VALUE, Integer.MAX_VALUE}, {Integer.MAX_VALUE, Integer.MIN_VALUE},
        };
        for (int[] w : wrong) {
            Check.badArgument("dial(" + w[0] + ", " + w[1] + ")", x, () -> x.dial(w[0], w[1], -1));
        }
        RelayBench none = new RelayBench();
        Check.badArgument("no switch at all", none, () -> none.dial(0, 1, 0));
    }
}
