/** Promises 1 to 6: a new bench, and the parts that come to it. */
public final class PartsTest {
    private static final int[] NO_NODES = {-1, 48, Integer.MIN_VALUE, Integer.MAX_VALUE};
    private static final int[] NO_TIMES = {0, 10, -1, Integer.MIN_VALUE, Integer.MAX_VALUE};

    /** A kind of part that lies between two nodes and has nothing else to say. */
    private interface Kind {
        int add(RelayBench x, int a, int b);
    }

    public static void main(String[] args) {
        newBench();
        plainKind("relay", 0, 16, (x, a, b) -> x.relay(a, b, 1, 1));
        plainKind("contact", 1, 64, (x, a, b) -> x.contact(4, 0, a, b));
        plainKind("knob", 2, 12, (x, a, b) -> x.knob(a, b));
        plainKind("diode", 3, 24, (x, a, b) -> x.diode(a, b));
        plainKind("lamp", 4, 12, (x, a, b) -> x.lamp(a, b));
        relayTimes();
        contactKindsAndRelays();
        fullAndWrong();
        Check.end();
    }

    private static void newBench() {
        RelayBench x = new RelayBench();
        for (int what = 0; what <= 6; what++) {
            Check.same("new: count(" + what + ")", x.count(what), 0);
        }
        Check.no("new: blown()", x.blown());
        Check.yes("new: fuse()", x.fuse());
        Check.same("new: ups()", x.ups(), 0);
        Check.same("new: lit()", x.lit(), 0);
        for (int k = 0; k < 48; k++) {
            Check.same("new: node(" + k + ")", x.node(k), k == 0 ? 1 : k == 1 ? 2 : 0);
        }
        Check.same("new: tick(3)", x.tick(3), 0);
        Check.same("new: settle(0)", x.settle(0), 0);
        Check.same("new: circle(1)", x.circle(1), 1000);
    }

    private static void plainKind(String name, int what, int most, Kind kind) {
        RelayBench x = new RelayBench();
        wrongNodes(name, kind, x);
        Check.same(name + " numbers", kind.add(x, 0, 47), 0);
        Check.same(name + " numbers", kind.add(x, 47, 2), 1);
        wrongNodes(name, kind, x);
        for (int k = 2; k < most; k++) {
            Check.same(name + " numbers", kind.add(x, 2 + k % 40, 3 + k % 40), k);
            Check.same(name + " counted", x.count(what), k + 1);
        }
        Check.badState(name + " one too many", x, () -> kind.add(x, 2, 3));
        for (int other = 0; other <= 4; other++) {
            Check.same(name + " alone is counted", x.count(other), other == what ? most : 0);
        }
    }

    private static void wrongNodes(String name, Kind kind, RelayBench x) {
        for (int wrong : NO_NODES) {
            Check.badArgument(name + " from " + wrong, x, () -> kind.add(x, wrong, 2));
            Check.badArgument(name + " to " + wrong, x, () -> kind.add(x, 2, wrong));
        }
        for (int k : new int[] {0, 1, 2, 47}) {
            Check.badArgument(name + " from a node to itself", x, () -> kind.add(x, k, k));
        }
    }

    private static void relayTimes() {
        RelayBench x = new RelayBench();
        for (int wrong : NO_TIMES) {
            Check.badArgument("pull " + wrong, x, () -> x.relay(2, 3, wrong, 1));
            Check.badArgument("drop " + wrong, x, () -> x.relay(2, 3, 1, wrong));
        }
        Check.same("longest times", x.relay(2, 3, 9, 9), 0);
        Check.same("a new relay is down", x.state(0, 0), 0);
        Check.same("a new relay counts 0", x.state(0, 1), 0);
        Check.same("a new relay is not worn", x.state(0, 3), 0);
    }

    private static void contactKindsAndRelays() {
        RelayBench x = new RelayBench();
        for (int kind = 0; kind <= 3; kind++) {
            int k = kind;
            Check.badArgument("no relay yet, kind " + k, x, () -> x.contact(k, 0, 2, 3));
        }
        Check.same("a wire needs no relay", x.contact(4, Integer.MIN_VALUE, 2, 3), 0);
        Check.same("a wire takes any relay", x.contact(4, Integer.MAX_VALUE, 3, 4), 1);
        Check.same("a wire takes any relay", x.contact(4, -1, 4, 5), 2);
        Check.yes("wires conduct", x.leads(2, 5) && x.leads(5, 2));
        x.relay(2, 3, 1, 1);
        for (int wrong : new int[] {-1, 5, Integer.MIN_VALUE, Integer.MAX_VALUE}) {
            Check.badArgument("kind " + wrong, x, () -> x.contact(wrong, 0, 2, 3));
        }
        for (int wrong : new int[] {-1, 1, 16, 32, Integer.MIN_VALUE, Integer.MAX_VALUE}) {
            for (int kind = 0; kind <= 3; kind++) {
                int k = kind;
                Check.badArgument("kind " + k + " of relay " + wrong, x, () -> x.contact(k, wrong, 2, 3));
            }
        }
        for (int kind = 0; kind <= 3; kind++) {
            Check.same("kind " + kind, x.contact(kind, 0, 10, 11), 3 + kind);
        }
        for (int kind = 0; kind <= 4; kind++) {
            int k = kind;
            Check.badArgument("same nodes", x, () -> x.contact(k, 0, 7, 7));
            Check.badArgument("no node", x, () -> x.contact(k, 0, 7, 48));
        }
    }

    /** The document names wrong arguments first, so they go before a full bench. */
    private static void fullAndWrong() {
        RelayBench x = new RelayBench();
        for (int k = 0; k < 16; k++) {
            x.relay(2, 3, 1, 1);
        }
        for (int k = 0; k < 64; k++) {
            x.contact(0, 0, 2, 3);
        }
        Check.badArgument("full: relay, wrong time", x, () -> x.relay(2, 3, 1, 10));
        Check.badArgument("full: relay, same nodes", x, () -> x.relay(2, 2, 1, 1));
        Check.badArgument("full: contact, wrong relay", x, () -> x.contact(0, 16, 2, 3));
        Check.badArgument("full: contact, wrong kind", x, () -> x.contact(5, 0, 2, 3));
        Check.badState("full: relay", x, () -> x.relay(2, 3, 1, 1));
        Check.badState("full: contact", x, () -> x.contact(0, 15, 2, 3));
        Check.badState("full: wire", x, () -> x.contact(4, 99, 2, 3));
    }
}
