/** Promises 9 and 10: tick and settle, with how a relay moves and what its contacts do. */
public final class TicksTest {
    private static final int DOWN = 0;
    private static final int RISING = 1;
    private static final int UP = 2;
    private static final int FALLING = 3;

    public static void main(String[] args) {
        Check.runAll(TicksTest.class);
    }

    /** Switch 0 feeds relay 0; contact k of the relay is of kind k, between PLUS and node 10 + k. */
    private static RelayBench bench(int pull, int drop) {
        RelayBench x = new RelayBench();
        x.knob(0, 2);
        x.relay(2, 1, pull, drop);
        for (int kind = 0; kind <= 4; kind++) {
            x.contact(kind, 0, 0, 10 + kind);
        }
        return x;
    }

    private static void shows(String where, RelayBench x, int state, int count, int worn) {
        Check.same(where + " state", x.state(0, 0), state);
        Check.same(where + " count", x.state(0, 1), count);
        Check.same(where + " worn", x.state(0, 3), worn);
        Check.same(where + " ups", x.ups(), state == UP ? 1 : 0);
        int conducts = (state == UP ? 1 : 0) | (state == DOWN ? 2 : 0) | (state != DOWN ? 4 : 0)
                | (state != UP ? 8 : 0) | 16;
        for (int kind = 0; kind <= 4; kind++) {
            Check.same(where + " kind " + kind, x.node(10 + kind), conducts >> kind & 1);
            Check.same(where + " kind " + kind + " back", x.leads(10 + kind, 0) ? 1 : 0, conducts >> kind & 1);
        }
        Check.same(where + " conducting", x.count(5), Integer.bitCount(conducts));
    }

    private static void wholeTravel() {
        for (int pull = 1; pull <= 9; pull++) {
            int drop = 10 - pull;
            RelayBench x = bench(pull, drop);
            for (int round = 0; round < 2; round++) {
                shows("down", x, DOWN, 0, round);
                x.turn(0, true);
                for (int k = 1; k < pull; k++) {
                    Check.same("rising tick", x.tick(1), 1);
                    shows("rising", x, RISING, k, round);
                }
                Check.same("up tick", x.tick(1), 1);
                shows("up", x, UP, 0, round + 1);
                Check.same("up stays", x.tick(2), 0);
                x.turn(0, false);
                for (int k = 1; k < drop; k++) {
                    Check.same("falling tick", x.tick(1), 1);
                    shows("falling", x, FALLING, k, round + 1);
                }
                Check.same("down tick", x.tick(1), 1);
                Check.same("down stays", x.tick(3), 0);
            }
            Check.same("all ticks are counted", x.count(6), 2 * (pull + 2 + drop + 3));
        }
    }

    private static void turnedBack() {
        RelayBench x = bench(3, 3);
        x.turn(0, true);
        x.tick(2);
        shows("nearly up", x, RISING, 2, 0);
        x.turn(0, false);
        x.tick(1);
        shows("down again", x, DOWN, 0, 0);
        x.turn(0, true);
        x.tick(1);
        shows("counts anew", x, RISING, 1, 0);
        x.tick(2);
        shows("up", x, UP, 0, 1);
        x.turn(0, false);
        x.tick(2);
        shows("nearly down", x, FALLING, 2, 1);
        x.turn(0, true);
        x.tick(1);
        shows("up again without wear", x, UP, 0, 1);
        x.turn(0, false);
        x.tick(1);
        shows("counts anew", x, FALLING, 1, 1);
    }

    /** A chain of relays moves one relay a tick, whichever way its numbers run. */
    private static void allTogether() {
        RelayBench x = new RelayBench();
        x.knob(0, 2);
        x.relay(2, 1, 1, 1);
        x.relay(1, 3, 1, 1);
        x.relay(4, 1, 1, 1);
        x.contact(0, 0, 0, 4);
        x.contact(0, 2, 0, 3);
        x.turn(0, true);
        int[] ups = {1, 5, 7, 7};
        for (int due : ups) {
            x.tick(1);
            Check.same("chain ups", x.ups(), due);
        }
    }

    private static void changesOnly() {
        RelayBench x = bench(4, 2);
        Check.same("nothing to do", x.tick(20), 0);
        Check.same("ticks are done all the same", x.count(6), 20);
        x.turn(0, true);
        Check.same("four of them", x.tick(50), 4);
        Check.same("ticks", x.count(6), 70);
        x.turn(0, false);
        Check.same("two of them", x.tick(3), 2);
        Check.same("ticks", x.count(6), 73);
    }

    private static void settles() {
        RelayBench x = bench(4, 2);
        x.turn(0, true);
        Check.same("from the first", x.settle(100), 4);
        shows("settled", x, UP, 0, 1);
        Check.same("ticks", x.count(6), 4);
        Check.same("still", x.settle(100), 0);
        Check.same("no tick more", x.count(6), 4);
        x.turn(0, false);
        x.tick(1);
        Check.same("from the middle", x.settle(100), 1);
        shows("settled", x, DOWN, 0, 1);
        Check.same("ticks", x.count(6), 6);
    }

    private static void settlesInVain() {
        Check.unsupported("a buzzer", () -> Benches.buzzer(3, 1, 1), x -> x.settle(100));
        Check.unsupported("one that rises and gives up", () -> Benches.buzzer(1, 3, 3), x -> x.settle(100));
        Check.unsupported("a bench that moves", Benches::moving, x -> x.settle(100));
    }
}
