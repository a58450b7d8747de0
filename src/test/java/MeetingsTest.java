import java.util.ArrayList;
import java.util.List;

/**
 * Where two promises meet: what one call answers is held against what other calls do and show, on many benches
 * of parts by chance.
 */
public final class MeetingsTest {
    private static final int BENCHES = 1000;
    private static final String NEVER = "never still";

    public static void main(String[] args) {
        Check.runAll(MeetingsTest.class);
    }

    private interface Meeting {
        void with(Wild wild);
    }

    private static void onAll(Meeting meeting) {
        for (int seed = 0; seed < BENCHES; seed++) {
            meeting.with(new Wild(seed));
        }
    }

    private static boolean minusIsHot(RelayBench x) {
        return (x.node(1) & 1) != 0;
    }

    /** States, counts and the fuse: what a circle takes for the same. */
    private static String told(Wild wild, RelayBench x) {
        StringBuilder b = new StringBuilder(x.blown() ? "blown" : "whole");
        for (int r = 0; r < wild.relays; r++) {
            b.append(' ').append(x.state(r, 0)).append(':').append(x.state(r, 1));
        }
        return b.toString();
    }

    private static void nodeIsWhatLeadsFromPlusAndToMinus() {
        onAll(wild -> {
            RelayBench x = wild.used();
            for (int k = 0; k < 48; k++) {
                int due = (x.leads(0, k) ? 1 : 0) + (x.leads(k, 1) ? 2 : 0);
                Check.same(wild.seed + ": node(" + k + ")", x.node(k), due);
            }
        });
    }

    private static boolean isFed(RelayBench x, int a, int b) {
        int atA = x.node(a);
        int atB = x.node(b);
        return !x.blown() && ((atA & 1) != 0 && (atB & 2) != 0 || (atB & 1) != 0 && (atA & 2) != 0);
    }

    /** Lamp r lies beside coil r, the other way round. */
    private static void currentIsWhatNodesAndFuseSay() {
        onAll(wild -> {
            RelayBench x = wild.used();
            for (int round = 0; round < 4; round++) {
                int lit = x.lit();
                for (int r = 0; r < wild.relays; r++) {
                    int due = isFed(x, wild.from(r), wild.to(r)) ? 1 : 0;
                    Check.same(wild.seed + ": current of " + r, x.state(r, 2), due);
                    Check.same(wild.seed + ": light of " + r, lit >> r & 1, due);
                }
                x.tick(1);
            }
        });
    }

    private static void upsAreTheStatesThatAreTwo() {
        onAll(wild -> {
            RelayBench x = wild.used();
            for (int round = 0; round < 8; round++) {
                int due = 0;
                for (int r = 0; r < wild.relays; r++) {
                    due |= x.state(r, 0) == 2 ? 1 << r : 0;
                }
                Check.same(wild.seed + ": ups()", x.ups(), due);
                x.tick(1);
            }
        });
    }

    /** What a tick makes of a relay, told by what was seen before it. */
    private static String moved(Wild wild, RelayBench x, int r) {
        int state = x.state(r, 0);
        int count = x.state(r, 1);
        int worn = x.state(r, 3);
        // The fuse is looked at before the relays move.
        if (x.state(r, 2) == 1 && !minusIsHot(x)) {
            if (state == 2 || state == 3) {
                return "2:0 worn " + worn;
            }
            return count + 1 >= wild.pulls[r] ? "2:0 worn " + (worn + 1) : "1:" + (count + 1) + " worn " + worn;
        }
        if (state == 0 || state == 1) {
            return "0:0 worn " + worn;
        }
        return count + 1 >= wild.drops[r] ? "0:0 worn " + worn : "3:" + (count + 1) + " worn " + worn;
    }

    private static void tickMovesRelaysByWhatIsSeenBefore() {
        onAll(wild -> {
            RelayBench x = wild.used();
            for (int round = 0; round < 6; round++) {
                List<String> due = new ArrayList<>();
                for (int r = 0; r < wild.relays; r++) {
                    due.add(moved(wild, x, r));
                }
                x.tick(1);
                for (int r = 0; r < wild.relays; r++) {
                    String got = x.state(r, 0) + ":" + x.state(r, 1) + " worn " + x.state(r, 3);
                    Check.same(wild.seed + ": relay " + r, got, due.get(r));
                }
            }
        });
    }

    private static void tickAnswersWhetherItChangedWhatIsSeen() {
        onAll(wild -> {
            RelayBench x = wild.used();
            for (int round = 0; round < 12; round++) {
                String before = told(wild, x);
                int answer = x.tick(1);
                Check.same(wild.seed + ": tick(1)", answer, told(wild, x).equals(before) ? 0 : 1);
            }
        });
    }

    /** In a tick by what conducts before it; behind turn() and dial() by what conducts then. */
    private static void fuseBlowsByWhatIsSeenOfMinus() {
        onAll(wild -> {
            RelayBench x = wild.used();
            for (int round = 0; round < 16; round++) {
                boolean before = x.blown();
                boolean hot = minusIsHot(x);
                x.tick(1);
                Check.same(wild.seed + ": blown in a tick", x.blown() + "", (before || hot) + "");
                before = x.blown();
                x.turn(round % wild.knobs, round % 3 == 0);
                Check.same(wild.seed + ": blown by turn", x.blown() + "", (before || minusIsHot(x)) + "");
                before = x.blown();
                x.dial(0, wild.knobs, round * 5);
                Check.same(wild.seed + ": blown by dial", x.blown() + "", (before || minusIsHot(x)) + "");
            }
        });
    }

    private static void fuseAnswersByWhatIsSeenAndMovesNothing() {
        onAll(wild -> {
            RelayBench x = wild.used();
            for (int round = 0; round < 5; round++) {
                boolean due = !x.blown() || !minusIsHot(x);
                String before = told(wild, x).substring(5);
                int ticks = x.count(6);
                Check.same(wild.seed + ": fuse()", x.fuse() + "", due + "");
                Check.same(wild.seed + ": blown()", x.blown() + "", !due + "");
                Check.same(wild.seed + ": relays behind fuse()", told(wild, x).substring(5), before);
                Check.same(wild.seed + ": ticks behind fuse()", x.count(6), ticks);
                x.tick(1);
            }
        });
    }

    /** How many ticks, or -1 if it refuses. */
    private static int settled(RelayBench x, int most) {
        try {
            return x.settle(most);
        } catch (UnsupportedOperationException e) {
            return -1;
        }
    }

    private static void settleIsSoManyTicks() {
        onAll(wild -> {
            RelayBench x = wild.used();
            RelayBench y = wild.used();
            int ticks = settled(x, 80);
            if (ticks > 0) {
                Check.same(wild.seed + ": each of them changes something", y.tick(ticks), ticks);
            }
            Check.same(wild.seed + ": the same", told(wild, x), told(wild, y));
            Check.same(wild.seed + ": the same ticks", x.count(6), y.count(6));
            for (int r = 0; r < wild.relays; r++) {
                Check.same(wild.seed + ": the same wear", x.state(r, 3), y.state(r, 3));
            }
            if (ticks >= 0) {
                Check.same(wild.seed + ": settled", x.settle(0), 0);
                Check.same(wild.seed + ": no tick changes something", x.tick(30), 0);
            } else {
                Check.same(wild.seed + ": all ticks change something", x.tick(80), 80);
            }
        });
    }

    /** After how many ticks a state is there that was there before, told by benches of that many ticks. */
    private static int circled(Wild wild, int most) {
        List<String> seen = new ArrayList<>();
        for (int k = 0; k <= most; k++) {
            RelayBench x = wild.used();
            if (k > 0) {
                x.tick(k);
            }
            String now = told(wild, x);
            if (seen.contains(now)) {
                return seen.indexOf(now) + 1000 * (k - seen.indexOf(now));
            }
            seen.add(now);
        }
        return -1;
    }

    private static void circleIsWhatTicksComeTo() {
        onAll(wild -> {
            int due = circled(wild, 60);
            RelayBench x = wild.used();
            int got;
            try {
                got = x.circle(60);
            } catch (UnsupportedOperationException e) {
                got = -1;
            }
            Check.same(wild.seed + ": circle(60)", got, due);
        });
    }

    private static void circleOfOneIsWhatSettleComesTo() {
        onAll(wild -> {
            RelayBench x = wild.used();
            int circle = x.circle(500);
            Check.same(wild.seed + ": settle(499)", settled(x, 499), circle / 1000 == 1 ? circle % 1000 : -1);
        });
    }

    private static String end(RelayBench x, int most) {
        return settled(x, most) < 0 ? NEVER : x.ups() + (x.blown() ? " blown" : " whole");
    }

    /** Slow relays are relays of longer times: each set has a bench of its own, which is turned and settled. */
    private static int raced(Wild wild, boolean closed, int n, int most, String begin) {
        String usual = "";
        for (int slow = 0; slow < 1 << n; slow++) {
            RelayBench y = wild.built(slow);
            if (!begin.isEmpty()) {
                y.dial(0, wild.knobs, -1);
                settled(y, 400);
                if (!told(wild, y).equals(begin)) {
                    return -2;
                }
            }
            y.turn(0, closed);
            String end = end(y, most);
            if (slow == 0) {
                usual = end;
            } else if (!end.equals(usual)) {
                return slow;
            }
        }
        return -1;
    }

    private static void raceIsTurnAndSettleOfSlowerRelays() {
        onAll(wild -> {
            int n = Math.min(4, wild.relays);
            int most = 1 + wild.seed % 40;
            RelayBench x = wild.built(0);
            Check.same(wild.seed + ": race", x.race(0, true, n, most), raced(wild, true, n, most, ""));
        });
    }

    /** All switches are closed, and the bench has come to rest; the first one is opened. */
    private static void raceOfOpeningIsTurnAndSettleOfSlowerRelays() {
        int[] compared = new int[1];
        onAll(wild -> {
            int n = Math.min(4, wild.relays);
            int most = 1 + wild.seed % 40;
            RelayBench x = wild.built(0);
            x.dial(0, wild.knobs, -1);
            settled(x, 400);
            int due = raced(wild, false, n, most, told(wild, x));
            if (due != -2) {
                compared[0]++;
                Check.same(wild.seed + ": race", x.race(0, false, n, most), due);
            }
        });
        Check.yes("enough of them begin alike", compared[0] > BENCHES / 4);
    }

    /** Looks in any order answer the same, and leave the bench as it is. */
    private static void looksLeaveNothingBehind() {
        onAll(wild -> Check.looks(wild.seed + ": looks", wild::used, x -> {
            int sum = x.ups() - x.ups() + x.lit() - x.lit() + x.count(5) - x.count(5);
            sum += x.node(9) - x.node(9) + x.state(0, 2) - x.state(0, 2);
            sum += x.circle(500) - x.circle(500) + (x.leads(0, 8) == x.leads(0, 8) ? 0 : 1);
            return sum + x.race(0, true, 2, 30) - x.race(0, true, 2, 30) + (x.blown() == x.blown() ? 0 : 1);
        }, 0));
    }
}
