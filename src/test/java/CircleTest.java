/** Promise 11: circle. */
public final class CircleTest {
    public static void main(String[] args) {
        stillOnes();
        buzzers();
        fuseIsState();
        everyRelayIsState();
        longCircle();
        wrongOnes();
        Check.end();
    }

    private static void looks(String what, RelayBench x, int most, int due) {
        String before = Check.picture(x);
        Check.same(what, x.circle(most), due);
        Check.same(what + " changes nothing", Check.picture(x), before);
    }

    private static void stillOnes() {
        RelayBench x = new RelayBench();
        x.knob(0, 2);
        x.relay(2, 1, 3, 2);
        looks("still", x, 1, 1000);
        looks("still", x, 500, 1000);
        x.turn(0, true);
        looks("three ticks, then still", x, 4, 1003);
        looks("three ticks, then still", x, 500, 1003);
        Check.unsupported("the third state is not there twice", x, () -> x.circle(3));
        Check.unsupported("not within one", x, () -> x.circle(1));
        x.tick(1);
        looks("two ticks left", x, 3, 1002);
    }

    /** A relay that breaks its own feed, by a LATE contact unless it says otherwise. */
    private static RelayBench buzzer(int kind, int pull, int drop) {
        RelayBench x = new RelayBench();
        x.relay(2, 1, pull, drop);
        x.contact(kind, 0, 0, 2);
        return x;
    }

    private static void buzzers() {
        looks("back, rises and gives up", buzzer(1, 2, 3), 2, 2000);
        Check.unsupported("not within one", buzzer(1, 2, 3), () -> buzzer(1, 2, 3).circle(1));
        looks("late, down at once", buzzer(3, 2, 1), 3, 3000);
        looks("late, down at once, slow to rise", buzzer(3, 9, 1), 500, 10000);
        RelayBench x = buzzer(3, 2, 2);
        looks("late, falls and is caught", x, 4, 2002);
        Check.unsupported("not within three", x, () -> x.circle(3));
        x.tick(1);
        looks("a tick later", x, 500, 2001);
        x.tick(1);
        looks("in the circle", x, 500, 2000);
        x.tick(1);
        looks("in the circle, worn once", x, 500, 2000);
    }

    private static void fuseIsState() {
        RelayBench x = new RelayBench();
        x.relay(0, 1, 1, 1);
        x.contact(0, 0, 0, 1);
        looks("down and whole is not down and blown", x, 9, 1002);
    }

    /** Each relay's state and count tell states apart, the others being as they were. */
    private static void everyRelayIsState() {
        for (int moving = 0; moving < 16; moving++) {
            RelayBench x = new RelayBench();
            x.knob(0, 2);
            for (int r = 0; r < 16; r++) {
                x.relay(r == moving ? 2 : 3, 1, 9, 9);
            }
            x.turn(0, true);
            looks("rising " + moving, x, 10, 1009);
            x.tick(9);
            x.turn(0, false);
            looks("falling " + moving, x, 10, 1009);
        }
    }

    /** Two buzzers whose circles have 9 and 10 ticks come together again after 90. */
    private static void longCircle() {
        RelayBench x = new RelayBench();
        x.relay(2, 1, 8, 1);
        x.contact(3, 0, 0, 2);
        x.relay(3, 1, 9, 1);
        x.contact(3, 1, 0, 3);
        looks("9 times 10", x, 90, 90000);
        Check.unsupported("one too few", x, () -> x.circle(89));
        x.relay(4, 1, 6, 1);
        x.contact(3, 2, 0, 4);
        Check.unsupported("630 are too many", x, () -> x.circle(500));
    }

    private static void wrongOnes() {
        RelayBench x = buzzer(3, 2, 2);
        for (int wrong : new int[] {0, -1, 501, Integer.MIN_VALUE, Integer.MAX_VALUE}) {
            Check.badArgument("circle(" + wrong + ")", x, () -> x.circle(wrong));
        }
    }
}
