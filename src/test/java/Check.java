/** What the tests share: it prints every answer that is not the one that is due. */
final class Check {
    private static int wrong = 0;

    private Check() {
    }

    static void same(String call, long got, long due) {
        if (got != due) {
            complain(call + " answered " + got + ", due is " + due);
        }
    }

    static void same(String call, String got, String due) {
        if (!got.equals(due)) {
            complain(call + " gave\n" + got + "\ndue is\n" + due);
        }
    }

    static void yes(String call, boolean got) {
        same(call, got ? 1 : 0, 1);
    }

    static void no(String call, boolean got) {
        same(call, got ? 1 : 0, 0);
    }

    /** The call has to throw exactly this and leave everything as it was. */
    static void refuses(Class<? extends RuntimeException> due, String call, RelayBench x, Runnable body) {
        String before = picture(x);
        Class<?> got = null;
        try {
            body.run();
        } catch (RuntimeException e) {
            got = e.getClass();
        }
        if (got != due) {
            complain(call + " threw " + got + ", due is " + due);
        }
        same(call + " when refused", picture(x), before);
    }

    static void badArgument(String call, RelayBench x, Runnable body) {
        refuses(IllegalArgumentException.class, call, x, body);
    }

    static void badState(String call, RelayBench x, Runnable body) {
        refuses(IllegalStateException.class, call, x, body);
    }

    static void unsupported(String call, RelayBench x, Runnable body) {
        refuses(UnsupportedOperationException.class, call, x, body);
    }

    /** All that can be seen of a bench without changing it. */
    static String picture(RelayBench x) {
        StringBuilder b = new StringBuilder();
        for (int what = 0; what <= 6; what++) {
            b.append(x.count(what)).append(' ');
        }
        b.append("blown ").append(x.blown()).append(" ups ").append(x.ups()).append(" lit ").append(x.lit());
        for (int r = 0; r < x.count(0); r++) {
            b.append(" r");
            for (int what = 0; what <= 3; what++) {
                b.append(' ').append(x.state(r, what));
            }
        }
        for (int a = 0; a < 48; a++) {
            b.append(" n").append(x.node(a));
            for (int c = 0; c < 48; c++) {
                if (x.leads(a, c)) {
                    b.append('>').append(c);
                }
            }
        }
        return b.toString();
    }

    /** The last tick has closed a way from PLUS to MINUS; the fuse has not been looked at since. */
    static RelayBench shortNotLookedAt() {
        RelayBench x = new RelayBench();
        x.knob(0, 2);
        x.relay(2, 1, 1, 1);
        x.lamp(0, 1);
        x.turn(0, true);
        x.tick(1);
        x.contact(1, 0, 0, 1);
        x.turn(0, false);
        x.tick(1);
        return x;
    }

    /** Ends the test, with exit code 1 if an answer was wrong. */
    static void end() {
        if (wrong != 0) {
            System.out.println(wrong + " answers are not as due");
            System.exit(1);
        }
    }

    private static void complain(String text) {
        wrong++;
        System.out.println(text);
    }
}
