import java.util.function.Supplier;

/** The boundary cases of promises 9 to 11: tick, settle and circle. */
public final class BoundsOfRunsTest {
    private static final int LEAST = Integer.MIN_VALUE;
    private static final int GREATEST = Integer.MAX_VALUE;

    public static void main(String[] args) {
        Check.runAll(BoundsOfRunsTest.class);
    }

    /** Still behind exactly so many ticks (up to 630). */
    private static Supplier<RelayBench> stillBehind(int ticks) {
        return () -> {
            RelayBench x = Benches.stillBehind630();
            int before = 630 - ticks;
            for (int left = before; left > 0; left -= 500) {
                x.tick(Math.min(left, 500));
            }
            return x;
        };
    }

    private static void settles(int ticks, int most) {
        RelayBench x = stillBehind(ticks).get();
        String where = "settle(" + most + ") when " + ticks + " are needed";
        Check.same(where, x.settle(most), ticks);
        Check.same(where + ", all ticks", x.count(6), 630);
        Check.same(where + ", ups", x.ups(), 0b1000);
        Check.same(where + ", ticks that change something", x.tick(1), 0);
    }

    private static void doesNotSettle(int ticks, int most) {
        Check.unsupported("settle(" + most + ") when " + ticks + " are needed", stillBehind(ticks),
                x -> x.settle(most));
    }

    private static void circles(Supplier<RelayBench> maker, int most, int before, int round) {
        Check.looks("circle(" + most + ")", maker, x -> x.circle(most), before + 1000 * round);
    }

    private static void doesNotCircle(Supplier<RelayBench> maker, int most) {
        Check.unsupported("circle(" + most + ")", maker, x -> x.circle(most));
    }

    /** Buzzers that are up once in so many ticks each. */
    private static Supplier<RelayBench> buzzers(int... rounds) {
        return () -> {
            RelayBench x = new RelayBench();
            for (int r = 0; r < rounds.length; r++) {
                x.relay(2 + r, 1, rounds[r] - 1, 1);
                x.contact(3, r, 0, 2 + r);
            }
            return x;
        };
    }

    // Promise 9: tick.

    private static void p09_tickTakesOne() {
        RelayBench x = Benches.buzzer(3, 1, 1);
        Check.same("tick(1)", x.tick(1), 1);
        Check.same("ticks", x.count(6), 1);
        Check.same("up", x.ups(), 1);
    }

    private static void p09_tickTakesFiveHundred() {
        RelayBench x = Benches.buzzer(3, 1, 1);
        Check.same("tick(500)", x.tick(500), 500);
        Check.same("ticks", x.count(6), 500);
        Check.same("wear", x.state(0, 3), 250);
        Check.same("tick(499)", x.tick(499), 499);
        Check.same("up behind an odd number", x.ups(), 1);
    }

    private static void p09_tickRefusesOtherNumbers() {
        for (int wrong : new int[] {0, 501, -1, -500, 65537, LEAST, GREATEST}) {
            Check.badEverywhere("tick(" + wrong + ")", x -> x.tick(wrong));
        }
    }

    private static void p09_tickCountsThoseThatChangedSomething() {
        RelayBench x = Benches.chain(9);
        Check.same("none", x.tick(500), 0);
        x.turn(0, true);
        Check.same("all but the last", x.tick(8), 8);
        Check.same("the last one", x.tick(500), 1);
        Check.same("none", x.tick(1), 0);
        Check.same("ticks that were done", x.count(6), 1009);
    }

    private static void p09_tickOfABlowingFuseChangesSomething() {
        RelayBench x = Benches.shortNotLookedAt();
        Check.same("the fuse alone", x.tick(500), 1);
        Check.yes("blown", x.blown());
        Check.same("blown already", x.tick(500), 0);
    }

    private static void p09_tickIsAsGoodAsManySmallOnes() {
        RelayBench x = Benches.moving();
        RelayBench y = Benches.moving();
        int sum = 0;
        for (int k = 0; k < 100; k++) {
            sum += y.tick(1);
        }
        Check.same("tick(100)", x.tick(100), sum);
        Check.same("what is left", Story.of(x).toString(), Story.of(y).toString());
    }

    /** A bench is good for 512 calls: so many ticks and no more come to be. */
    private static void p09_tickInEachCallThatIsPromised() {
        RelayBench x = new RelayBench();
        x.relay(2, 1, 1, 1);
        x.contact(3, 0, 0, 2);
        for (int call = 3; call <= 510; call++) {
            x.tick(500);
        }
        Check.same("wear in the 511th call", x.state(0, 3), 508 * 250);
        Check.same("ticks in the 512th call", x.count(6), 508 * 500);
    }

    /** All sixteen are fed; the slowest one needs nine ticks, and four were done. */
    private static void p09_tickOfAFullBench() {
        RelayBench x = Benches.full();
        Check.same("tick(1)", x.tick(1), 1);
        Check.same("tick(500)", x.tick(500), 4);
        Check.same("ups", x.ups(), 65535);
        Check.same("ticks", x.count(6), 505);
    }

    // Promise 10: settle.

    private static void p10_settleTakesNone() {
        Check.looks("settle(0) of an empty bench", RelayBench::new, x -> x.settle(0), 0);
        Check.looks("settle(0) of a still bench", stillBehind(0), x -> x.settle(0), 0);
        doesNotSettle(1, 0);
        doesNotSettle(630, 0);
        Check.unsupported("settle(0) of one that moves for ever", Benches::moving, x -> x.settle(0));
    }

    private static void p10_settleTakesFiveHundred() {
        Check.looks("settle(500) of an empty bench", RelayBench::new, x -> x.settle(500), 0);
        Check.looks("settle(500) of a still bench", stillBehind(0), x -> x.settle(500), 0);
        settles(499, 500);
        settles(500, 500);
        doesNotSettle(501, 500);
        doesNotSettle(630, 500);
        Check.unsupported("settle(500) of one that moves for ever", Benches::moving, x -> x.settle(500));
    }

    private static void p10_settleTakesJustEnough() {
        settles(1, 1);
        settles(2, 2);
        settles(250, 250);
        settles(499, 499);
    }

    private static void p10_settleTakesMoreThanEnough() {
        settles(1, 2);
        settles(1, 500);
        settles(250, 251);
    }

    private static void p10_settleRefusesOneTooFew() {
        doesNotSettle(2, 1);
        doesNotSettle(250, 249);
        doesNotSettle(500, 499);
    }

    private static void p10_settleRefusesOtherNumbers() {
        for (int wrong : new int[] {-1, 501, -500, 65536, LEAST, GREATEST}) {
            Check.badEverywhere("settle(" + wrong + ")", x -> x.settle(wrong));
        }
    }

    private static void p10_settleIsNotStillBeforeTheFuseBlows() {
        Check.unsupported("settle(0)", Benches::shortNotLookedAt, x -> x.settle(0));
        RelayBench x = Benches.shortNotLookedAt();
        Check.same("settle(1)", x.settle(1), 1);
        Check.yes("blown", x.blown());
        Check.same("settle(0) behind it", x.settle(0), 0);
    }

    private static void p10_settleIsNotStillWhileOneOnlyCounts() {
        RelayBench x = Benches.chain(9);
        x.turn(0, true);
        x.tick(1);
        Check.same("one that rises", x.settle(8), 8);
        Check.same("all ticks", x.count(6), 9);
    }

    private static void p10_settleOfAFullBench() {
        Check.unsupported("settle(4)", Benches::full, x -> x.settle(4));
        RelayBench x = Benches.full();
        Check.same("settle(5)", x.settle(5), 5);
        Check.same("ups", x.ups(), 65535);
        Check.same("ticks", x.count(6), 9);
    }

    // Promise 11: circle.

    private static void p11_circleTakesOne() {
        circles(RelayBench::new, 1, 0, 1);
        circles(stillBehind(0), 1, 0, 1);
        doesNotCircle(stillBehind(1), 1);
        doesNotCircle(buzzers(2), 1);
        doesNotCircle(Benches::moving, 1);
    }

    private static void p11_circleTakesFiveHundred() {
        circles(RelayBench::new, 500, 0, 1);
        circles(stillBehind(0), 500, 0, 1);
        circles(buzzers(2), 500, 0, 2);
        circles(Benches::moving, 500, 2, 2);
    }

    private static void p11_circleTakesJustEnoughToBeStill() {
        for (int ticks : new int[] {1, 2, 250, 498, 499}) {
            circles(stillBehind(ticks), ticks + 1, ticks, 1);
            doesNotCircle(stillBehind(ticks), ticks);
        }
        doesNotCircle(stillBehind(500), 500);
        doesNotCircle(stillBehind(501), 500);
    }

    private static void p11_circleTakesJustEnoughToComeRound() {
        circles(buzzers(2), 2, 0, 2);
        circles(buzzers(10), 10, 0, 10);
        doesNotCircle(buzzers(10), 9);
        circles(buzzers(9, 10), 90, 0, 90);
        doesNotCircle(buzzers(9, 10), 89);
        circles(buzzers(3, 4, 5, 7), 420, 0, 420);
        doesNotCircle(buzzers(3, 4, 5, 7), 419);
        doesNotCircle(buzzers(7, 8, 9), 500);
    }

    /** Behind 630 ticks a buzzer begins, which was not fed before. */
    private static Supplier<RelayBench> buzzesBehind(int ticks) {
        return Benches.then(Benches::stillBehind630, x -> {
            x.relay(30, 1, 1, 1);
            x.contact(0, 3, 0, 31);
            x.contact(3, 4, 31, 30);
            x.tick(Math.min(630 - ticks, 500));
        });
    }

    private static void p11_circleTakesJustEnoughBeforeAndInTheRound() {
        circles(buzzesBehind(498), 500, 498, 2);
        doesNotCircle(buzzesBehind(498), 499);
        doesNotCircle(buzzesBehind(499), 500);
        circles(buzzesBehind(200), 202, 200, 2);
        doesNotCircle(buzzesBehind(200), 201);
    }

    private static void p11_circleOfAFullBench() {
        circles(Benches::full, 6, 5, 1);
        doesNotCircle(Benches::full, 5);
    }

    private static void p11_circleRefusesOtherNumbers() {
        for (int wrong : new int[] {0, 501, -1, -500, 65537, LEAST, GREATEST}) {
            Check.badEverywhere("circle(" + wrong + ")", x -> x.circle(wrong));
        }
    }

    private static void p11_circleKnowsTheFuseAsState() {
        circles(Benches::shortNotLookedAt, 2, 1, 1);
        doesNotCircle(Benches::shortNotLookedAt, 1);
    }

    private static void p11_circleDoesNotKnowWearAsState() {
        for (int ticks : new int[] {1, 2, 500}) {
            circles(Benches.then(buzzers(2), x -> x.tick(ticks)), 2, 0, 2);
        }
    }
}
