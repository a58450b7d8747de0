import java.util.function.Supplier;

/** The boundary cases of promise 12: race. */
public final class BoundsOfRaceTest {
    private static final int LEAST = Integer.MIN_VALUE;
    private static final int GREATEST = Integer.MAX_VALUE;

    public static void main(String[] args) {
        Check.runAll(BoundsOfRaceTest.class);
    }

    private static void races(String what, Supplier<RelayBench> maker, int n, int most, int due) {
        Check.looks(what + ", race(0, true, " + n + ", " + most + ")", maker, x -> x.race(0, true, n, most), due);
    }

    /** So many relays and switches, and nothing that moves. */
    private static Supplier<RelayBench> benchOf(int relays, int knobs) {
        return () -> {
            RelayBench x = new RelayBench();
            for (int r = 0; r < relays; r++) {
                x.relay(2, 1, 1, 1);
            }
            for (int k = 0; k < knobs; k++) {
                x.knob(0, 10 + k);
            }
            return x;
        };
    }

    /** Twelve relays one behind the other that need so many ticks in all (12 .. 108). */
    private static Supplier<RelayBench> chainOf(int ticks) {
        int[] pulls = new int[12];
        int left = ticks;
        for (int r = 0; r < 12; r++) {
            pulls[r] = Math.min(9, left - (11 - r));
            left -= pulls[r];
        }
        return () -> Benches.chain(pulls);
    }

    private static void p12_raceTakesTheFirstAndTheLastSwitch() {
        for (int knobs : new int[] {1, 2, 12}) {
            for (int knob : new int[] {0, knobs - 1}) {
                Check.looks("closed", benchOf(1, knobs), x -> x.race(knob, true, 1, 5), -1);
                Check.looks("opened", benchOf(1, knobs), x -> x.race(knob, false, 1, 5), -1);
            }
        }
    }

    /** Each switch feeds a relay of its own: only the right one makes relay 0 move. */
    private static void p12_raceTurnsTheSwitchThatItIsTold() {
        Supplier<RelayBench> maker = () -> {
            RelayBench x = new RelayBench();
            for (int k = 0; k < 12; k++) {
                x.knob(0, 2 + k);
                x.relay(2 + (k + 1) % 12, 1, 3, 3);
            }
            return x;
        };
        for (int k = 0; k < 12; k++) {
            int knob = k;
            Check.looks("switch " + knob, maker, x -> x.race(knob, true, 1, 3), knob == 1 ? 1 : -1);
        }
    }

    private static void p12_raceRefusesTheSwitchBehindTheLast() {
        for (int knobs : new int[] {0, 1, 2, 11, 12}) {
            Check.badArgument("switch " + knobs, benchOf(6, knobs), x -> x.race(knobs, true, 0, 1));
            Check.badArgument("switch " + knobs, benchOf(6, knobs), x -> x.race(knobs, false, 6, 100));
        }
    }

    private static void p12_raceRefusesWhatIsNoSwitchAtAll() {
        for (int wrong : new int[] {-1, 12, 32, LEAST, GREATEST}) {
            Check.badEverywhere("switch " + wrong, x -> x.race(wrong, true, 0, 1));
            Check.badEverywhere("switch " + wrong, x -> x.race(wrong, false, 0, 100));
        }
    }

    private static void p12_raceTakesAsManyRelaysAsThereAre() {
        for (int relays : new int[] {0, 1, 2, 5, 6}) {
            races("all of " + relays, benchOf(relays, 1), relays, 5, -1);
            Check.badArgument("one more than " + relays, benchOf(relays, 1), x -> x.race(0, true, relays + 1, 5));
        }
    }

    private static void p12_raceTakesNoMoreThanSixRelays() {
        for (int relays : new int[] {7, 16}) {
            races("six of " + relays, benchOf(relays, 1), 6, 5, -1);
            Check.badArgument("seven of " + relays, benchOf(relays, 1), x -> x.race(0, true, 7, 5));
            Check.badArgument("all of " + relays, benchOf(relays, 1), x -> x.race(0, true, relays, 5));
        }
    }

    private static void p12_raceRefusesOtherNumbersOfRelays() {
        for (int wrong : new int[] {-1, 7, 17, 32, LEAST, GREATEST}) {
            Check.badEverywhere("n " + wrong, x -> x.race(0, true, wrong, 1));
            Check.badEverywhere("n " + wrong, x -> x.race(0, false, wrong, 100));
        }
    }

    private static void p12_raceOfNoRelayFindsNone() {
        Check.looks("an empty set alone", benchOf(0, 1), x -> x.race(0, true, 0, 1), -1);
        races("it is not still, and nothing else is looked at", chainOf(100), 0, 99, -1);
    }

    private static void p12_raceTakesOneTick() {
        races("still within one", benchOf(1, 1), 1, 1, -1);
        races("both within one", Benches.then(() -> Benches.chain(2), x -> x.turn(0, true)), 1, 1, -1);
        races("the slow one is not still", () -> Benches.chain(1), 1, 1, 1);
    }

    private static void p12_raceTakesAHundredTicks() {
        races("99, or 100 when one is slow", chainOf(99), 1, 100, -1);
        races("99, or 101 when two are slow", chainOf(99), 2, 100, 3);
        races("100, or 101 when one is slow", chainOf(100), 1, 100, 1);
        races("101 or more, none is still", chainOf(101), 6, 100, -1);
    }

    private static void p12_raceTakesJustEnoughTicks() {
        for (int ticks : new int[] {20, 50, 98}) {
            races("none is still", chainOf(ticks), 1, ticks - 1, -1);
            races("the slow one is not still", chainOf(ticks), 1, ticks, 1);
            races("both are still", chainOf(ticks), 1, ticks + 1, -1);
        }
    }

    private static void p12_raceRefusesOtherNumbersOfTicks() {
        for (int wrong : new int[] {0, 101, -1, 500, LEAST, GREATEST}) {
            Check.badEverywhere("most " + wrong, x -> x.race(0, true, 0, wrong));
            Check.badArgument("most " + wrong, Benches::full, x -> x.race(11, true, 6, wrong));
            Check.badArgument("most " + wrong, Benches::full, x -> x.race(0, false, 0, wrong));
        }
    }

    /** 95 ticks and six slow relays make 101. */
    private static void p12_raceComesToTheLastSetOfSix() {
        races("all six", chainOf(95), 6, 100, 63);
        races("five of them", chainOf(95), 5, 100, -1);
        races("all six are in time", chainOf(94), 6, 100, -1);
    }

    private static void p12_raceTellsTheLeastSet() {
        races("two of six", chainOf(99), 6, 100, 3);
        races("three of six", chainOf(98), 6, 100, 7);
        races("one of six", chainOf(100), 6, 100, 1);
    }

    private static void p12_raceWithARelayThatIsSlowBeyondNineTicks() {
        Supplier<RelayBench> rising = () -> Benches.chain(9);
        races("ten ticks to rise", rising, 1, 9, 1);
        races("ten ticks to rise", rising, 1, 10, -1);
        Supplier<RelayBench> falling = () -> {
            RelayBench x = new RelayBench();
            x.knob(0, 2);
            x.relay(2, 1, 1, 9);
            x.turn(0, true);
            x.tick(1);
            return x;
        };
        Check.looks("ten ticks to fall", falling, x -> x.race(0, false, 1, 9), 1);
        Check.looks("ten ticks to fall", falling, x -> x.race(0, false, 1, 10), -1);
    }

    private static void p12_raceOnABenchThatNeverRests() {
        races("none of them is still", Benches::moving, 3, 100, -1);
        races("none of them is still", Benches::moving, 3, 1, -1);
    }

    private static void p12_raceOnAFullBench() {
        for (int knob : new int[] {0, 11}) {
            Check.looks("all of the first six", Benches::full, x -> x.race(knob, true, 6, 100), -1);
            Check.looks("all of the first six", Benches::full, x -> x.race(knob, false, 6, 100), -1);
        }
    }
}
