/** Counts the project's tests, and holds what they share. */
final class Check {
    static final Class<IndexOutOfBoundsException> INDEX = IndexOutOfBoundsException.class;
    static final Class<IllegalArgumentException> ARGUMENT = IllegalArgumentException.class;
    static final Class<IllegalStateException> STATE = IllegalStateException.class;

    static int passed = 0;
    static int failed = 0;

    private Check() {
    }

    /** Runs one test; whatever it throws is its failure, so that the other tests still run. */
    static void test(String name, Runnable body) {
        try {
            body.run();
            passed++;
        } catch (Throwable thrown) {
            failed++;
            System.out.println("FAILED " + name + ": " + thrown);
        }
    }

    static void same(String what, Object want, Object got) {
        if (!want.equals(got)) {
            throw new AssertionError(what + " answered " + got + ", due is " + want);
        }
    }

    static void same(String what, int want, int got) {
        same(what, Integer.valueOf(want), Integer.valueOf(got));
    }

    static void yes(String what, boolean got) {
        same(what, Boolean.TRUE, Boolean.valueOf(got));
    }

    static void no(String what, boolean got) {
        same(what, Boolean.FALSE, Boolean.valueOf(got));
    }

    /** Asks that the call throws exactly this, and that a twin that was told it too holds what one without it holds. */
    static void refuses(String what, Class<? extends RuntimeException> due, Told x, Runnable call) {
        int before = x.calls();
        Class<?> got = null;
        try {
            call.run();
        } catch (RuntimeException thrown) {
            got = thrown.getClass();
        }
        if (got != due) {
            throw new AssertionError(what + " threw " + got + ", due is " + due);
        }
        same("the calls told by " + what, before + 1, x.calls());
        same("what is held after " + what, Look.at(x, before), Look.at(x, before + 1));
    }

    static int campaigns(Told x) {
        int count = 0;
        try {
            while (count < 100) {
                x.ring(count);
                count++;
            }
        } catch (IndexOutOfBoundsException none) {
            return count;
        }
        return count;
    }

    /** A fleet of devices of the kind 0 with the version 0, and images of 100 for the versions 1 to 7. */
    static Told fleet(int devices) {
        Told x = new Told();
        for (int v = 1; v < 8; v++) {
            x.setImage(v, 100);
        }
        for (int d = 0; d < devices; d++) {
            x.addDevice(0, 0);
        }
        return x;
    }

    /** Begins a campaign to the target for all, with full shares. */
    static int beginForAll(Told x, int target, int needs, int thousandths) {
        int campaign = x.begin(target, 15, 255, Ringroll.NONE);
        x.setRules(campaign, 100, 100, needs, thousandths);
        return campaign;
    }
}
