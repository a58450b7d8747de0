import java.util.ArrayList;
import java.util.List;

/**
 * All that can be seen of a bench, and what comes of it when it is used on: two benches that tell the same
 * story are the same. It takes some 340 calls of the 512 that a bench is good for, and uses it up.
 */
final class Story {
    /** A call whose answer may be an exception. */
    private interface Call {
        Object made();
    }

    private final RelayBench x;
    private final List<String> lines = new ArrayList<>();

    private Story(RelayBench x) {
        this.x = x;
    }

    static List<String> of(RelayBench x) {
        Story s = new Story(x);
        s.sums();
        s.relays(4);
        s.ways();
        s.outlook();
        s.useOn();
        return s.lines;
    }

    private void tell(String call, Call made) {
        String answer;
        try {
            answer = String.valueOf(made.made());
        } catch (RuntimeException e) {
            answer = e.getClass().getSimpleName();
        }
        lines.add(call + " = " + answer);
    }

    private void sums() {
        for (int k = 0; k <= 6; k++) {
            int what = k;
            tell("count(" + what + ")", () -> x.count(what));
        }
        tell("blown()", () -> x.blown());
        tell("ups()", () -> x.ups());
        tell("lit()", () -> x.lit());
    }

    private void relays(int whats) {
        int relays = x.count(0);
        for (int r = 0; r < relays; r++) {
            for (int k = 0; k < whats; k++) {
                int relay = r;
                int what = k;
                tell("state(" + relay + ", " + what + ")", () -> x.state(relay, what));
            }
        }
    }

    private void ways() {
        for (int k = 0; k < 48; k++) {
            int a = k;
            int b = (k * 5 + 1) % 48;
            tell("node(" + a + ")", () -> x.node(a));
            tell("leads(" + a + ", " + b + ")", () -> x.leads(a, b));
        }
    }

    private void outlook() {
        tell("circle(500)", () -> x.circle(500));
        int racers = Math.min(3, x.count(0));
        int knobs = x.count(2);
        for (int k = 0; k < knobs; k++) {
            int knob = k;
            tell("race(" + knob + ", true)", () -> x.race(knob, true, racers, 12));
            tell("race(" + knob + ", false)", () -> x.race(knob, false, racers, 12));
        }
    }

    private void useOn() {
        tell("tick(1)", () -> x.tick(1));
        relays(2);
        tell("settle(500)", () -> x.settle(500));
        int knobs = x.count(2);
        for (int k = 0; k < knobs; k++) {
            int knob = k;
            tell("turn(" + knob + ", true)", () -> x.turn(knob, true));
        }
        tell("tick(2)", () -> x.tick(2));
        relays(2);
        tell("fuse()", () -> x.fuse());
        x.dial(0, knobs, 0);
        tell("fuse()", () -> x.fuse());
        tell("tick(4)", () -> x.tick(4));
        relays(2);
        tell("tick(9)", () -> x.tick(9));
        tell("relay", () -> x.relay(2, 3, 1, 1));
        tell("contact", () -> x.contact(4, 0, 2, 3));
        tell("knob", () -> x.knob(2, 3));
        tell("diode", () -> x.diode(2, 3));
        tell("lamp", () -> x.lamp(2, 3));
        sums();
    }
}
