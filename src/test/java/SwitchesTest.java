/** Promises 7 and 8: turn and dial. */
public final class SwitchesTest {
    public static void main(String[] args) {
        Check.runAll(SwitchesTest.class);
    }

    /** Switch k lies between PLUS and node 10 + k. */
    private static RelayBench benchOf(int many) {
        RelayBench x = new RelayBench();
        for (int k = 0; k < many; k++) {
            x.knob(0, 10 + k);
        }
        return x;
    }

    private static int closed(RelayBench x) {
        int bits = 0;
        int many = x.count(2);
        for (int k = 0; k < many; k++) {
            bits |= x.leads(10 + k, 0) ? 1 << k : 0;
        }
        return bits;
    }

    private static void turns() {
        RelayBench x = benchOf(12);
        Check.same("open at first", closed(x), 0);
        Check.yes("closed", x.turn(3, true));
        Check.yes("closed", x.turn(7, true));
        Check.same("closed ones", closed(x), 1 << 3 | 1 << 7);
        Check.yes("both ways", x.leads(0, 13) && x.leads(13, 0) && x.leads(13, 17));
        Check.yes("opened", x.turn(3, false));
        Check.same("closed ones", closed(x), 1 << 7);
    }

    private static void dials() {
        RelayBench x = benchOf(12);
        x.dial(0, 12, 0b101100111001);
        Check.same("all twelve", closed(x), 0b101100111001);
        x.dial(4, 3, 0b010);
        Check.same("three of them", closed(x), 0b101100101001);
        x.turn(8, false);
        Check.same("one of them", closed(x), 0b101000101001);
        x.dial(2, 5, 0b10001);
        Check.same("five of them", closed(x), 0b101001000101);
    }

    private static void switchesMoveNoRelayBeforeTheNextTick() {
        RelayBench x = Benches.chain(1);
        x.turn(0, true);
        Check.same("down yet", x.ups(), 0);
        Check.same("with current", x.state(0, 2), 1);
        x.turn(0, false);
        Check.same("nothing was noticed", x.tick(1), 0);
    }
}
