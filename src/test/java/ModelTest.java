import java.util.Random;

/** All promises: long runs of mixed calls, right and wrong ones, each answer compared with the Model's. */
final class ModelTest {
    private static final int RUNS = 1500;
    private static final int CALLS = 512;
    private static final int PREPARED = 50;
    private static final int[] ODD = {-2, -1, 8, 16, 100, 101, 256, 1001, Integer.MIN_VALUE, Integer.MAX_VALUE};

    private static final int ALLOW = 0, IMAGE = 1, DELTA = 2, SIZE = 3, WAYS = 4, ADD = 5, CHARGE = 6, WINDOW = 7;
    private static final int REPORT = 8, DEVICES = 9, STATE = 10, VERSION = 11, CAMPAIGN_OF = 12, TO_GO = 13;
    private static final int BATTERY = 14, BEGIN = 15, RULES = 16, TOGGLE = 17, ACTIVE = 18, RING = 19, REPORTS = 20;
    private static final int ELIGIBLE = 21, PASS = 22, KINDS_OF_CALLS = 23;

    private ModelTest() {
    }

    static void run() {
        for (int style = 0; style < 3; style++) {
            int of = style;
            Check.test("all promises: runs of the style " + style + " answer as the model", () -> runs(of));
        }
    }

    private static void runs(int style) {
        for (int seed = 0; seed < RUNS; seed++) {
            oneRun(style, seed);
        }
    }

    private static void oneRun(int style, int seed) {
        Random random = new Random(seed * 3L + style);
        Ringroll x = new Ringroll();
        Model model = new Model();
        if (style > 0) {
            prepare(style, random, x, model);
        }
        for (int i = style > 0 ? PREPARED : 0; i < CALLS; i++) {
            int call = style == 0 ? random.nextInt(KINDS_OF_CALLS) : likely(random);
            int[] a = arguments(call, random);
            String got = answer(() -> ofObject(x, call, a));
            String due = answer(() -> ofModel(model, call, a));
            Check.same("style " + style + ", seed " + seed + ", call " + i + " of the kind " + call + " with "
                    + java.util.Arrays.toString(a), due, got);
        }
    }

    /** Fills the fleet at once, so that most of the run is a rollout. */
    private static void prepare(int style, Random random, Ringroll x, Model model) {
        for (int i = 0; i < PREPARED; i++) {
            int call = i < 20 ? DELTA : i < 26 ? IMAGE : i < 36 ? ADD : i < 40 ? BEGIN : RULES;
            int[] a = arguments(call, random);
            if (call == ADD && style == 2) {
                a[0] = 0;
                a[1] = i % 3;
            }
            if (call == BEGIN) {
                a[1] = 15;
                a[2] = 255;
                a[3] = Ringroll.NONE;
            }
            if (call == RULES && style == 2) {
                a = new int[] {i % 4, 60, 100, random.nextInt(3) + 1, 500};
            }
            int[] told = a;
            Check.same("preparation", answer(() -> ofModel(model, call, told)), answer(() -> ofObject(x, call, told)));
        }
    }

    /** A kind of call, with many hours and reports, so that rings widen and campaigns are stopped. */
    private static int likely(Random random) {
        int draw = random.nextInt(100);
        if (draw < 25) {
            return REPORT;
        }
        if (draw < 45) {
            return PASS;
        }
        if (draw < 55) {
            return CHARGE;
        }
        if (draw < 65) {
            return ELIGIBLE;
        }
        return random.nextInt(KINDS_OF_CALLS);
    }

    private static int odd(Random random, int least, int most) {
        int draw = random.nextInt(60);
        if (draw == 0) {
            return ODD[random.nextInt(ODD.length)];
        }
        if (draw == 1) {
            return least;
        }
        if (draw == 2) {
            return most;
        }
        if (draw == 3) {
            return random.nextBoolean() ? least - 1 : most + 1;
        }
        return least + random.nextInt(most - least + 1);
    }

    private static int size(Random random) {
        int draw = random.nextInt(10);
        if (draw == 0) {
            return Ringroll.NONE;
        }
        if (draw == 1) {
            return odd(random, 1, 100000);
        }
        return odd(random, 1, 900);
    }

    private static int[] arguments(int call, Random random) {
        switch (call) {
            case ALLOW:
                return new int[] {odd(random, 0, 7), random.nextInt(4) == 0 ? odd(random, 0, 15) : 15};
            case IMAGE:
                return new int[] {odd(random, 0, 7), size(random)};
            case DELTA:
                return new int[] {odd(random, 0, 7), odd(random, 0, 7), size(random)};
            case SIZE:
            case WAYS:
                return new int[] {odd(random, 0, 7), odd(random, 0, 7)};
            case ADD:
                return new int[] {odd(random, 0, 3), odd(random, 0, 7)};
            case CHARGE:
                return new int[] {odd(random, 0, 9), odd(random, random.nextBoolean() ? 0 : 18, 100)};
            case WINDOW:
                return new int[] {odd(random, 0, 9), odd(random, 0, 23), odd(random, 0, 23)};
            case REPORT:
                return new int[] {odd(random, 0, 9), random.nextInt(4)};
            case BEGIN:
                return new int[] {odd(random, 0, 7), odd(random, 0, 15), odd(random, 0, 255), odd(random, -1, 4)};
            case RULES:
                int first = odd(random, 0, 100);
                return new int[] {odd(random, 0, 5), first, odd(random, Math.max(0, Math.min(first, 99)), 100),
                    odd(random, 1, random.nextBoolean() ? 10 : 3), odd(random, 0, 1000)};
            case PASS:
                return new int[] {odd(random, 1, random.nextInt(5) == 0 ? 100 : 9)};
            case TOGGLE:
            case ACTIVE:
            case RING:
            case REPORTS:
            case ELIGIBLE:
                return new int[] {odd(random, 0, 5)};
            default:
                return new int[] {odd(random, 0, 9)};
        }
    }

    private interface Call {
        int answer();
    }

    private static String answer(Call call) {
        try {
            return String.valueOf(call.answer());
        } catch (IndexOutOfBoundsException | IllegalArgumentException | IllegalStateException thrown) {
            return "throws." + thrown.getClass().getSimpleName();
        }
    }

    private static int ofObject(Ringroll x, int call, int[] a) {
        switch (call) {
            case ALLOW: return x.allow(a[0], a[1]);
            case IMAGE: return x.setImage(a[0], a[1]);
            case DELTA: return x.setDelta(a[0], a[1], a[2]);
            case SIZE: return x.size(a[0], a[1]);
            case WAYS: return x.sizeByWays(a[0], a[1]);
            case ADD: return x.addDevice(a[0], a[1]);
            case CHARGE: return x.charge(a[0], a[1]);
            case WINDOW:
                x.setWindow(a[0], a[1], a[2]);
                return 0;
            case REPORT: return x.report(a[0], a[1] != 0);
            case DEVICES: return x.devices();
            case STATE: return x.state(a[0]);
            case VERSION: return x.version(a[0]);
            case CAMPAIGN_OF: return x.campaignOf(a[0]);
            case TO_GO: return x.toGo(a[0]);
            case BATTERY: return x.battery(a[0]);
            case BEGIN: return x.begin(a[0], a[1], a[2], a[3]);
            case RULES:
                x.setRules(a[0], a[1], a[2], a[3], a[4]);
                return 0;
            case TOGGLE: return x.toggle(a[0]) ? 1 : 0;
            case ACTIVE: return x.isActive(a[0]) ? 1 : 0;
            case RING: return x.ring(a[0]);
            case REPORTS: return x.reports(a[0]);
            case ELIGIBLE: return x.eligible(a[0]);
            default: return x.pass(a[0]);
        }
    }

    private static int ofModel(Model x, int call, int[] a) {
        switch (call) {
            case ALLOW: return x.allow(a[0], a[1]);
            case IMAGE: return x.setImage(a[0], a[1]);
            case DELTA: return x.setDelta(a[0], a[1], a[2]);
            case SIZE:
            case WAYS: return x.size(a[0], a[1]);
            case ADD: return x.addDevice(a[0], a[1]);
            case CHARGE: return x.charge(a[0], a[1]);
            case WINDOW: return x.setWindow(a[0], a[1], a[2]);
            case REPORT: return x.report(a[0], a[1] != 0);
            case DEVICES: return x.devices();
            case STATE: return x.state(a[0]);
            case VERSION: return x.version(a[0]);
            case CAMPAIGN_OF: return x.campaignOf(a[0]);
            case TO_GO: return x.toGo(a[0]);
            case BATTERY: return x.battery(a[0]);
            case BEGIN: return x.begin(a[0], a[1], a[2], a[3]);
            case RULES: return x.setRules(a[0], a[1], a[2], a[3], a[4]);
            case TOGGLE: return x.toggle(a[0]);
            case ACTIVE: return x.isActive(a[0]);
            case RING: return x.ring(a[0]);
            case REPORTS: return x.reports(a[0]);
            case ELIGIBLE: return x.eligible(a[0]);
            default: return x.pass(a[0]);
        }
    }
}
