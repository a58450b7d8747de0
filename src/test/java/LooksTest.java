/** Promises 13 to 17 and 20: what is seen of a bench. */
public final class LooksTest {
    public static void main(String[] args) {
        Check.runAll(LooksTest.class);
    }

    private static void states() {
        RelayBench x = new RelayBench();
        x.knob(0, 2);
        for (int r = 0; r < 16; r++) {
            x.relay(r % 2 == 0 ? 2 : 3, 1, 1 + r / 2, 1 + r / 2);
        }
        x.turn(0, true);
        x.tick(3);
        for (int r = 0; r < 16; r++) {
            boolean fed = r % 2 == 0;
            int pull = 1 + r / 2;
            Check.same("state of " + r, x.state(r, 0), !fed ? 0 : pull <= 3 ? 2 : 1);
            Check.same("count of " + r, x.state(r, 1), !fed || pull <= 3 ? 0 : 3);
            Check.same("current of " + r, x.state(r, 2), fed ? 1 : 0);
            Check.same("wear of " + r, x.state(r, 3), fed && pull <= 3 ? 1 : 0);
        }
        Check.same("ups", x.ups(), 0b10101);
        x.tick(9);
        Check.same("all that are fed", x.ups(), 0x5555);
        x.turn(0, false);
        x.tick(1);
        Check.same("falling ones are not up", x.ups(), 0);
        Check.same("falling", x.state(14, 0), 3);
    }

    /** A coil has current whichever of its nodes is the hot one; it conducts for no one. */
    private static void currents() {
        RelayBench x = new RelayBench();
        x.relay(0, 1, 1, 1);
        x.relay(1, 0, 1, 1);
        x.relay(0, 5, 1, 1);
        x.relay(5, 1, 1, 1);
        x.relay(6, 7, 1, 1);
        x.relay(7, 6, 1, 1);
        x.contact(4, 0, 0, 6);
        x.knob(7, 1);
        int[] open = {1, 1, 0, 0, 0, 0};
        int[] closed = {1, 1, 0, 0, 1, 1};
        for (int r = 0; r < 6; r++) {
            Check.same("open, current of " + r, x.state(r, 2), open[r]);
        }
        x.turn(0, true);
        for (int r = 0; r < 6; r++) {
            Check.same("closed, current of " + r, x.state(r, 2), closed[r]);
        }
        x.tick(1);
        Check.same("ups", x.ups(), 0b110011);
        x.knob(0, 1);
        x.turn(1, true);
        for (int r = 0; r < 6; r++) {
            Check.same("blown, current of " + r, x.state(r, 2), 0);
        }
    }

    private static void lamps() {
        RelayBench x = new RelayBench();
        for (int k = 0; k < 12; k++) {
            x.lamp(k % 2 == 0 ? 10 + k : 1, k % 2 == 0 ? 1 : 10 + k);
            x.knob(0, 10 + k);
        }
        Check.same("dark", x.lit(), 0);
        for (int bits = 0; bits < 4096; bits += 273) {
            x.dial(0, 12, bits);
            Check.same("lit", x.lit(), bits);
        }
        x.dial(0, 12, -1);
        Check.same("all lit", x.lit(), 4095);
        RelayBench y = new RelayBench();
        y.lamp(0, 5);
        y.lamp(5, 1);
        y.lamp(5, 6);
        Check.same("lamps do not conduct", y.lit(), 0);
        y.contact(4, 0, 5, 1);
        Check.same("one between hot and cold", y.lit(), 1);
    }

    /** A lamp and a coil behind a contact of each kind: what has current follows relay 0 tick by tick. */
    private static RelayBench shownByLamps() {
        RelayBench x = new RelayBench();
        x.knob(0, 2);
        x.relay(2, 1, 2, 2);
        for (int kind = 0; kind <= 4; kind++) {
            x.contact(kind, 0, 0, 10 + kind);
            x.lamp(10 + kind, 1);
            x.relay(10 + kind, 1, 9, 9);
        }
        return x;
    }

    private static int coilsWithCurrent(RelayBench x) {
        int bits = 0;
        for (int kind = 0; kind <= 4; kind++) {
            bits |= x.state(1 + kind, 2) << kind;
        }
        return bits;
    }

    private static void currentsFollowTheRelays() {
        int down = 0b11010;
        int moving = 0b11100;
        int up = 0b10101;
        int[] due = {moving, up, up, moving, down, down};
        RelayBench x = shownByLamps();
        RelayBench y = shownByLamps();
        Check.same("lit at first", x.lit(), down);
        Check.same("coils at first", coilsWithCurrent(y), down);
        for (int k = 0; k < due.length; k++) {
            x.turn(0, k < 3);
            y.turn(0, k < 3);
            x.tick(1);
            y.tick(1);
            Check.same("lit behind tick " + k, x.lit(), due[k]);
            Check.same("coils behind tick " + k, coilsWithCurrent(y), due[k]);
        }
    }

    /** Each look is the first one behind a run that was not done. */
    private static void looksAreOfTheBenchAsItIs() {
        for (int how = 0; how < 2; how++) {
            RelayBench x = shownByLamps();
            x.turn(0, true);
            lookAhead(x, how);
            Check.same("lit()", x.lit(), 0b11010);
            lookAhead(x, how);
            Check.same("coils", coilsWithCurrent(x), 0b11010);
            lookAhead(x, how);
            Check.same("node(10)", x.node(10), 0);
            lookAhead(x, how);
            Check.no("leads(0, 12)", x.leads(0, 12));
            lookAhead(x, how);
            Check.same("count(5)", x.count(5), 3);
            lookAhead(x, how);
            Check.same("ups()", x.ups(), 0);
        }
    }

    private static void lookAhead(RelayBench x, int how) {
        if (how == 0) {
            x.race(0, true, 1, 50);
        } else {
            x.circle(50);
        }
    }

    private static void partsConductThoughTheFuseHasBlown() {
        RelayBench x = new RelayBench();
        x.contact(4, 0, 0, 1);
        Check.no("before", x.leads(0, 10) || x.leads(0, 11));
        x.contact(4, 0, 0, 10);
        x.diode(10, 11);
        Check.yes("behind", x.leads(0, 11) && x.node(11) == 1 && x.node(10) == 3);
        x.diode(11, 12);
        x.knob(12, 13);
        x.turn(0, true);
        Check.yes("behind a switch", x.leads(0, 13) && x.count(5) == 2);
        x.contact(4, 0, 13, 14);
        x.knob(14, 15);
        Check.yes("before a switch", x.leads(0, 14) && x.count(5) == 3);
    }

    private static void nodes() {
        RelayBench x = new RelayBench();
        x.diode(0, 10);
        x.diode(11, 0);
        x.diode(12, 1);
        x.diode(1, 13);
        x.contact(4, 0, 10, 14);
        x.contact(4, 0, 12, 15);
        x.diode(47, 12);
        x.diode(14, 46);
        int[] hot = {0, 10, 14, 46};
        int[] cold = {1, 12, 15, 47};
        int[] due = new int[48];
        for (int k : hot) {
            due[k] |= 1;
        }
        for (int k : cold) {
            due[k] |= 2;
        }
        for (int k = 0; k < 48; k++) {
            Check.same("node(" + k + ")", x.node(k), due[k]);
        }
        x.contact(4, 0, 46, 47);
        Check.yes("blown", x.blown());
        Check.same("hot and cold without the fuse", x.node(46), 3);
        Check.same("and behind MINUS", x.node(13), 1);
        Check.same("and before PLUS", x.node(11), 2);
    }

    /** A chain against the numbers through all nodes but PLUS: wires, with one diode in it. */
    private static RelayBench chain() {
        RelayBench x = new RelayBench();
        for (int k = 47; k > 1; k--) {
            if (k == 20) {
                x.diode(20, 19);
            } else {
                x.contact(4, 0, k, k - 1);
            }
        }
        return x;
    }

    private static void ways() {
        for (int a = 0; a < 48; a++) {
            RelayBench x = chain();
            for (int b = 0; b < 48; b++) {
                boolean due = a == b || a > 0 && b > 0 && (a >= 20 || b < 20);
                Check.same("leads(" + a + ", " + b + ")", x.leads(a, b) ? 1 : 0, due ? 1 : 0);
            }
        }
    }

    private static void waysOfSwitches() {
        RelayBench x = chain();
        x.knob(0, 47);
        Check.no("an open switch", x.leads(0, 47));
        x.turn(0, true);
        Check.yes("a closed one, though the fuse blows", x.blown() && x.leads(0, 1) && x.leads(47, 0));
        Check.no("not against the diode", x.leads(1, 0));
    }

    private static void counts() {
        RelayBench x = new RelayBench();
        x.relay(2, 1, 2, 2);
        x.relay(2, 1, 2, 2);
        x.contact(0, 0, 10, 11);
        x.contact(1, 0, 10, 11);
        x.contact(2, 0, 10, 11);
        x.contact(3, 0, 10, 11);
        x.contact(4, 0, 10, 11);
        x.contact(0, 1, 10, 11);
        x.knob(0, 2);
        x.knob(3, 4);
        x.knob(3, 4);
        x.diode(5, 6);
        x.diode(5, 6);
        x.diode(5, 6);
        x.diode(5, 6);
        for (int k = 0; k < 5; k++) {
            x.lamp(7, 8);
        }
        int[] due = {2, 6, 3, 4, 5, 3, 0};
        for (int what = 0; what <= 6; what++) {
            Check.same("count(" + what + ")", x.count(what), due[what]);
        }
        x.turn(0, true);
        x.tick(1);
        Check.same("rising: early, late, wire", x.count(5), 3);
        x.settle(10);
        Check.same("up: front, early, wire, front", x.count(5), 4);
        Check.same("ticks", x.count(6), 2);
        x.tick(7);
        Check.same("ticks that changed nothing too", x.count(6), 9);
        x.circle(9);
        x.race(0, false, 2, 9);
        Check.same("no ticks by looking", x.count(6), 9);
    }
}
