/** Promises 2 to 6: parts that come to a bench in any order. */
public final class PartsTest {
    public static void main(String[] args) {
        Check.runAll(PartsTest.class);
    }

    private static void numbersRunInEachKind() {
        RelayBench x = new RelayBench();
        for (int k = 0; k < 12; k++) {
            Check.same("relay", x.relay(2, 1, 1 + k % 9, 9 - k % 9), k);
            Check.same("knob", x.knob(0, 2), k);
            Check.same("contact", x.contact(k % 5, k, 2, 3), 2 * k);
            Check.same("diode", x.diode(3, 4), k);
            Check.same("lamp", x.lamp(4, 1), k);
            Check.same("contact", x.contact(4, 0, 3, 2), 2 * k + 1);
        }
        int[] due = {12, 24, 12, 12, 12};
        for (int what = 0; what <= 4; what++) {
            Check.same("count(" + what + ")", x.count(what), due[what]);
        }
    }

    private static void partsMayLieBesideEachOther() {
        RelayBench x = new RelayBench();
        x.knob(0, 2);
        x.knob(0, 2);
        x.lamp(2, 1);
        x.lamp(2, 1);
        x.turn(1, true);
        Check.same("both lamps by the second switch", x.lit(), 3);
        x.turn(0, true);
        x.turn(1, false);
        Check.same("both lamps by the first switch", x.lit(), 3);
    }

    private static void partsMayComeWhileOthersMove() {
        RelayBench x = Benches.chain(3);
        x.turn(0, true);
        x.tick(2);
        x.contact(2, 0, 0, 20);
        x.lamp(20, 1);
        x.relay(20, 1, 2, 1);
        Check.same("an early contact of a rising relay", x.lit(), 1);
        x.tick(1);
        Check.same("the first is up, the new one is rising", x.ups() * 10 + x.state(1, 0), 11);
        x.contact(1, 0, 20, 21);
        Check.no("a back contact of a relay that is up", x.leads(20, 21));
    }
}
