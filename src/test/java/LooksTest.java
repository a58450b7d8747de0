/** Promises 13 to 17 and 20: what is seen of a bench. */
public final class LooksTest {
    public static void main(String[] args) {
        states();
        currents();
        lamps();
        nodes();
        ways();
        counts();
        Check.end();
    }

    private static void states() {
        RelayBench x = new RelayBench();
        Check.badArgument("no relay at all", x, () -> x.state(0, 0));
        x.knob(0, 2);
        for (int r = 0; r < 16; r++) {
            x.relay(r % 2 == 0 ? 2 : 3, 1, 1 + r / 2, 1 + r / 2);
        }
        x.turn(0, true);
        x.tick(3);
        for (int r = 0; r < 16; r++) {
            boolean fed = r % 2 == 0;
            int pull = 1 + r / 2;
            Check.same("state of " + r, x.state(r, 0), !fed ? 0 : pull <= 3 ? 2 : 1);
            Check.same("count of " + r, x.state(r, 1), !fed || pull <= 3 ? 0 : 3);
            Check.same("current of " + r, x.state(r, 2), fed ? 1 : 0);
            Check.same("wear of " + r, x.state(r, 3), fed && pull <= 3 ? 1 : 0);
        }
        Check.same("ups", x.ups(), 0b10101);
        x.tick(9);
        Check.same("all that are fed", x.ups(), 0x5555);
        x.turn(0, false);
        x.tick(1);
        Check.same("falling ones are not up", x.ups(), 0);
        Check.same("falling", x.state(14, 0), 3);
        for (int wrong : new int[] {-1, 16, 32, Integer.MIN_VALUE, Integer.MAX_VALUE}) {
            Check.badArgument("state of " + wrong, x, () -> x.state(wrong, 0));
        }
        for (int wrong : new int[] {-1, 4, Integer.MIN_VALUE, Integer.MAX_VALUE}) {
            Check.badArgument("what " + wrong, x, () -> x.state(0, wrong));
        }
        Check.badArgument("both wrong", x, () -> x.state(16, 4));
    }

    /** A coil has current whichever of its nodes is the hot one; it conducts for no one. */
    private static void currents() {
        RelayBench x = new RelayBench();
        x.relay(0, 1, 1, 1);
        x.relay(1, 0, 1, 1);
        x.relay(0, 5, 1, 1);
        x.relay(5, 1, 1, 1);
        x.relay(6, 7, 1, 1);
        x.relay(7, 6, 1, 1);
        x.contact(4, 0, 0, 6);
        x.knob(7, 1);
        int[] open = {1, 1, 0, 0, 0, 0};
        int[] closed = {1, 1, 0, 0, 1, 1};
        for (int r = 0; r < 6; r++) {
            Check.same("open, current of " + r, x.state(r, 2), open[r]);
        }
        x.turn(0, true);
        for (int r = 0; r < 6; r++) {
            Check.same("closed, current of " + r, x.state(r, 2), closed[r]);
        }
        x.tick(1);
        Check.same("ups", x.ups(), 0b110011);
        x.knob(0, 1);
        x.turn(1, true);
        for (int r = 0; r < 6; r++) {
            Check.same("blown, current of " + r, x.state(r, 2), 0);
        }
    }

    private static void lamps() {
        RelayBench x = new RelayBench();
        for (int k = 0; k < 12; k++) {
            x.lamp(k % 2 == 0 ? 10 + k : 1, k % 2 == 0 ? 1 : 10 + k);
            x.knob(0, 10 + k);
        }
        Check.same("dark", x.lit(), 0);
        for (int bits = 0; bits < 4096; bits += 273) {
            x.dial(0, 12, bits);
            Check.same("lit", x.lit(), bits);
        }
        x.dial(0, 12, -1);
        Check.same("all lit", x.lit(), 4095);
        RelayBench y = new RelayBench();
        y.lamp(0, 5);
        y.lamp(5, 1);
        y.lamp(5, 6);
        Check.same("lamps do not conduct", y.lit(), 0);
        y.contact(4, 0, 5, 1);
        Check.same("one between hot and cold", y.lit(), 1);
    }

    private static void nodes() {
        RelayBench x = new RelayBench();
        x.diode(0, 10);
        x.diode(11, 0);
        x.diode(12, 1);
        x.diode(1, 13);
        x.contact(4, 0, 10, 14);
        x.contact(4, 0, 12, 15);
        x.diode(47, 12);
        x.diode(14, 46);
        int[] hot = {0, 10, 14, 46};
        int[] cold = {1, 12, 15, 47};
        int[] due = new int[48];
        for (int k : hot) {
            due[k] |= 1;
        }
        for (int k : cold) {
            due[k] |= 2;
        }
        for (int k = 0; k < 48; k++) {
            Check.same("node(" + k + ")", x.node(k), due[k]);
        }
        x.contact(4, 0, 46, 47);
        Check.yes("blown", x.blown());
        Check.same("hot and cold without the fuse", x.node(46), 3);
        Check.same("and behind MINUS", x.node(13), 1);
        Check.same("and before PLUS", x.node(11), 2);
        for (int wrong : new int[] {-1, 48, 64, Integer.MIN_VALUE, Integer.MAX_VALUE}) {
            Check.badArgument("node(" + wrong + ")", x, () -> x.node(wrong));
        }
    }

    private static void ways() {
        RelayBench x = new RelayBench();
        for (int k = 0; k < 48; k++) {
            Check.yes("a node leads to itself", x.leads(k, k));
        }
        // A chain against the numbers through all nodes but PLUS: wires, with one diode in it.
        for (int k = 47; k > 1; k--) {
            if (k == 20) {
                x.diode(20, 19);
            } else {
                x.contact(4, 0, k, k - 1);
            }
        }
        for (int a = 0; a < 48; a++) {
            for (int b = 0; b < 48; b++) {
                boolean due = a == b || a > 0 && b > 0 && (a >= 20 || b < 20);
                Check.same("leads(" + a + ", " + b + ")", x.leads(a, b) ? 1 : 0, due ? 1 : 0);
            }
        }
        x.knob(0, 47);
        Check.no("an open switch", x.leads(0, 47));
        x.turn(0, true);
        Check.yes("a closed one, though the fuse blows", x.blown() && x.leads(0, 1) && x.leads(47, 0));
        Check.no("not against the diode", x.leads(1, 0));
        for (int wrong : new int[] {-1, 48, 64, Integer.MIN_VALUE, Integer.MAX_VALUE}) {
            Check.badArgument("leads from " + wrong, x, () -> x.leads(wrong, 2));
            Check.badArgument("leads to " + wrong, x, () -> x.leads(2, wrong));
            Check.badArgument("leads to itself " + wrong, x, () -> x.leads(wrong, wrong));
        }
    }

    private static void counts() {
        RelayBench x = new RelayBench();
        x.relay(2, 1, 2, 2);
        x.relay(2, 1, 2, 2);
        x.contact(0, 0, 10, 11);
        x.contact(1, 0, 10, 11);
        x.contact(2, 0, 10, 11);
        x.contact(3, 0, 10, 11);
        x.contact(4, 0, 10, 11);
        x.contact(0, 1, 10, 11);
        x.knob(0, 2);
        x.knob(3, 4);
        x.knob(3, 4);
        x.diode(5, 6);
        x.diode(5, 6);
        x.diode(5, 6);
        x.diode(5, 6);
        for (int k = 0; k < 5; k++) {
            x.lamp(7, 8);
        }
        int[] due = {2, 6, 3, 4, 5, 3, 0};
        for (int what = 0; what <= 6; what++) {
            Check.same("count(" + what + ")", x.count(what), due[what]);
        }
        x.turn(0, true);
        x.tick(1);
        Check.same("rising: early, late, wire", x.count(5), 3);
        x.settle(10);
        Check.same("up: front, early, wire, front", x.count(5), 4);
        Check.same("ticks", x.count(6), 2);
        x.tick(7);
        Check.same("ticks that changed nothing too", x.count(6), 9);
        x.circle(9);
        x.race(0, false, 2, 9);
        Check.same("no ticks by looking", x.count(6), 9);
        for (int wrong : new int[] {-1, 7, Integer.MIN_VALUE, Integer.MAX_VALUE}) {
            Check.same("count(" + wrong + ")", x.count(wrong), -1);
        }
    }
}
