import java.util.function.Supplier;

/** Promise 11: circle. */
public final class CircleTest {
    public static void main(String[] args) {
        Check.runAll(CircleTest.class);
    }

    private static void looks(String what, Supplier<RelayBench> maker, int most, int due) {
        Check.looks(what, maker, x -> x.circle(most), due);
    }

    private static void stillOnes() {
        Supplier<RelayBench> open = () -> Benches.chain(3);
        looks("still", open, 50, 1000);
        Supplier<RelayBench> closed = Benches.then(open, x -> x.turn(0, true));
        looks("three ticks, then still", closed, 50, 1003);
        looks("two ticks left", Benches.then(closed, x -> x.tick(1)), 50, 1002);
    }

    private static void buzzers() {
        looks("back, rises and gives up", () -> Benches.buzzer(1, 2, 3), 50, 2000);
        looks("late, down at once", () -> Benches.buzzer(3, 2, 1), 50, 3000);
        looks("late, down at once, slow to rise", () -> Benches.buzzer(3, 9, 1), 50, 10000);
    }

    private static void comesIntoTheCircle() {
        int[] due = {2002, 2001, 2000, 2000, 2000};
        for (int ticks = 0; ticks < due.length; ticks++) {
            int before = ticks;
            looks("late, falls and is caught, " + before, () -> {
                RelayBench x = Benches.buzzer(3, 2, 2);
                for (int k = 0; k < before; k++) {
                    x.tick(1);
                }
                return x;
            }, 50, due[ticks]);
        }
    }

    private static void fuseIsState() {
        looks("down and whole is not down and blown", () -> {
            RelayBench x = new RelayBench();
            x.relay(0, 1, 1, 1);
            x.contact(0, 0, 0, 1);
            return x;
        }, 9, 1002);
    }

    /**
     * A relay falls and is caught; while it falls a second one rises for a tick and makes a short, and so the
     * first one falls again, as it did before but for the fuse.
     */
    private static RelayBench fallsTwice(int falling) {
        int other = (falling + 1) % 16;
        RelayBench x = new RelayBench();
        x.knob(0, 2);
        for (int r = 0; r < 16; r++) {
            x.relay(r == falling ? 2 : r == other ? 3 : 40, 1, 1, r == falling ? 2 : 1);
        }
        x.turn(0, true);
        x.tick(1);
        x.turn(0, false);
        x.contact(3, falling, 0, 2);
        x.contact(3, falling, 0, 4);
        x.contact(2, falling, 4, 3);
        x.contact(0, other, 0, 1);
        return x;
    }

    private static void fuseAloneTellsStatesApart() {
        for (int r = 0; r < 16; r++) {
            int falling = r;
            looks("relay " + falling + " falls twice", () -> fallsTwice(falling), 9, 1004);
        }
    }

    /** Each relay's state and count tell states apart, the others being as they were. */
    private static void everyRelayIsState() {
        for (int r = 0; r < 16; r++) {
            int moving = r;
            Supplier<RelayBench> rising = () -> sixteenWithOneFed(moving);
            looks("rising " + moving, rising, 10, 1009);
            looks("falling " + moving, Benches.then(rising, x -> {
                x.tick(9);
                x.turn(0, false);
            }), 10, 1009);
        }
    }

    private static RelayBench sixteenWithOneFed(int fed) {
        RelayBench x = new RelayBench();
        x.knob(0, 2);
        for (int r = 0; r < 16; r++) {
            x.relay(r == fed ? 2 : 3, 1, 9, 9);
        }
        x.turn(0, true);
        return x;
    }
}
