import java.util.function.Supplier;

/** Each range behind a parameter at both ends, each "Throws ..", and which exception comes first if several apply. */
final class RefusalsTest {
    private static final int NONE = Ringroll.NONE;
    private static final int LEAST = Integer.MIN_VALUE;
    private static final int MOST = Integer.MAX_VALUE;
    private static final Class<IndexOutOfBoundsException> INDEX = IndexOutOfBoundsException.class;
    private static final Class<IllegalArgumentException> ARGUMENT = IllegalArgumentException.class;
    private static final Class<IllegalStateException> STATE = IllegalStateException.class;

    private interface Call {
        void on(Told x, int value);
    }

    private RefusalsTest() {
    }

    static void run() {
        Check.test("the fleet in the midst of it is as told", RefusalsTest::midwayIsAsTold);
        versions();
        deltas();
        sizes();
        addDevice();
        devices();
        report();
        askedOfDevices();
        begin();
        beginFull();
        setRules();
        setRulesOfNone();
        askedOfCampaigns();
        pass();
    }

    /**
     * A fleet in the midst of it, so that a change would be seen: the devices 0 to 3 are on trial, loading, idle, and
     * idle after a failure; the campaigns are 0, in its ring 0, and 1, stopped; the hour is 3.
     */
    private static Told midway() {
        Told x = Check.fleet(4);
        x.setDelta(0, 1, 40);
        x.allow(3, 6);
        x.setWindow(1, 6, 9);
        x.charge(2, 27);
        x.begin(1, 15, 255, NONE);
        x.setRules(0, 60, 80, 5, 300);
        x.begin(2, 15, 255, NONE);
        x.toggle(1);
        x.pass(3);
        x.report(3, false);
        return x;
    }

    private static void midwayIsAsTold() {
        Told x = midway();
        Check.same("state(0)", Ringroll.TRIAL, x.state(0));
        Check.same("state(1)", Ringroll.LOADS, x.state(1));
        Check.same("state(2)", Ringroll.IDLE, x.state(2));
        Check.same("state(3)", Ringroll.IDLE, x.state(3));
        Check.same("reports(0)", 1, x.reports(0));
        Check.same("ring(0)", 0, x.ring(0));
        Check.yes("isActive(0)", x.isActive(0));
        Check.no("isActive(1)", x.isActive(1));
    }

    private static Told fullFleet() {
        Told x = Check.fleet(10);
        x.allow(3, 6);
        return x;
    }

    private static Told fullCampaigns() {
        Told x = midway();
        for (int c = 2; c < 6; c++) {
            x.begin(c, 15, 255, NONE);
        }
        return x;
    }

    private static void refused(String name, Class<? extends RuntimeException> due, Supplier<Told> made, Call call,
            int... values) {
        Check.test(name, () -> refuse(name, due, made, call, values));
    }

    private static void refuse(String name, Class<? extends RuntimeException> due, Supplier<Told> made, Call call,
            int... values) {
        for (int value : values) {
            Told x = made.get();
            Check.refuses(name + ", " + value, due, x, () -> call.on(x, value));
        }
    }

    /** The values from the least to the most are taken, those beside them and far from them are refused. */
    private static void range(String name, Class<? extends RuntimeException> due, Call call, int least, int most) {
        Check.test(name, () -> {
            for (int value = least; value <= most; value++) {
                call.on(midway(), value);
            }
            refuse(name, due, RefusalsTest::midway, call, least - 1, most + 1, LEAST, MOST);
        });
    }

    /** The sizes of images and deltas: 1 to 100000, or NONE; 0 lies between them and is refused. */
    private static void sizesOf(String name, Call call) {
        Check.test(name, () -> {
            for (int value : new int[] {NONE, 1, 2, 99999, 100000}) {
                call.on(midway(), value);
            }
            refuse(name, ARGUMENT, RefusalsTest::midway, call, 0, -2, 100001, LEAST, MOST);
        });
    }

    private static void versions() {
        range("promise 2: allow: version 0 to 7", INDEX, (x, v) -> x.allow(v, 5), 0, 7);
        range("promise 2: allow: kinds 0 to 15", ARGUMENT, (x, v) -> x.allow(3, v), 0, 15);
        refused("promise 2: allow: no version comes before wrong kinds", INDEX, RefusalsTest::midway,
                (x, v) -> x.allow(v, 16), -1, 8);
        range("promise 3: setImage: version 0 to 7", INDEX, (x, v) -> x.setImage(v, 5), 0, 7);
        sizesOf("promise 3: setImage: size 1 to 100000, or NONE", (x, v) -> x.setImage(1, v));
        refused("promise 3: setImage: no version comes before a wrong size", INDEX, RefusalsTest::midway,
                (x, v) -> x.setImage(v, 0), -1, 8);
    }

    private static void deltas() {
        range("promise 4: setDelta: from 0 to 7", INDEX, (x, v) -> x.setDelta(v, v == 3 ? 4 : 3, 5), 0, 7);
        range("promise 4: setDelta: to 0 to 7", INDEX, (x, v) -> x.setDelta(v == 3 ? 4 : 3, v, 5), 0, 7);
        sizesOf("promise 4: setDelta: size 1 to 100000, or NONE", (x, v) -> x.setDelta(0, 1, v));
        refused("promise 4: setDelta: both versions the same, with a size", ARGUMENT, RefusalsTest::midway,
                (x, v) -> x.setDelta(v, v, 5), 0, 1, 2, 3, 4, 5, 6, 7);
        refused("promise 4: setDelta: both versions the same, with NONE", ARGUMENT, RefusalsTest::midway,
                (x, v) -> x.setDelta(v, v, NONE), 0, 1, 2, 3, 4, 5, 6, 7);
        refused("promise 4: setDelta: both versions the same, with a wrong size", ARGUMENT, RefusalsTest::midway,
                (x, v) -> x.setDelta(3, 3, v), 0, -2, 100001);
        refused("promise 4: setDelta: no version comes before the same twice", INDEX, RefusalsTest::midway,
                (x, v) -> x.setDelta(v, v, 5), -1, 8);
        refused("promise 4: setDelta: no version to come from comes before a wrong size", INDEX, RefusalsTest::midway,
                (x, v) -> x.setDelta(v, 1, 0), -1, 8);
        refused("promise 4: setDelta: no version to come to comes before a wrong size", INDEX, RefusalsTest::midway,
                (x, v) -> x.setDelta(1, v, 0), -1, 8);
    }

    private static void sizes() {
        range("promise 5: size: from 0 to 7", INDEX, (x, v) -> x.size(v, 1), 0, 7);
        range("promise 5: size: to 0 to 7", INDEX, (x, v) -> x.size(1, v), 0, 7);
        range("promise 5: size: 0 for the same is not answered for no version", INDEX, (x, v) -> x.size(v, v), 0, 7);
        range("promise 6: sizeByWays: from 0 to 7", INDEX, (x, v) -> x.sizeByWays(v, 1), 0, 7);
        range("promise 6: sizeByWays: to 0 to 7", INDEX, (x, v) -> x.sizeByWays(1, v), 0, 7);
        range("promise 6: sizeByWays: 0 for the same is not answered for no version", INDEX,
                (x, v) -> x.sizeByWays(v, v), 0, 7);
    }

    private static void addDevice() {
        range("promise 7: addDevice: kind 0 to 3", INDEX, (x, v) -> x.addDevice(v, 0), 0, 3);
        range("promise 7: addDevice: version 0 to 7", INDEX, (x, v) -> x.addDevice(1, v), 0, 7);
        refused("promise 7: addDevice: the version may not run on the kind", STATE, RefusalsTest::midway,
                (x, v) -> x.addDevice(v, 3), 0, 3);
        refused("promise 7: addDevice: no kind comes before a version that may not run", INDEX, RefusalsTest::midway,
                (x, v) -> x.addDevice(v, 3), -1, 4);
        refused("promise 7: addDevice: neither kind nor version", INDEX, RefusalsTest::midway,
                (x, v) -> x.addDevice(v, v * 2), -1, 4);
        refused("promise 7: addDevice: there are 10 devices", STATE, RefusalsTest::fullFleet,
                (x, v) -> x.addDevice(v, 0), 0, 1, 2, 3);
        refused("promise 7: addDevice: 10 devices, and the version may not run on the kind", STATE,
                RefusalsTest::fullFleet, (x, v) -> x.addDevice(v, 3), 0, 3);
        refused("promise 7: addDevice: no kind comes before 10 devices", INDEX, RefusalsTest::fullFleet,
                (x, v) -> x.addDevice(v, 0), -1, 4);
        refused("promise 7: addDevice: no version comes before 10 devices", INDEX, RefusalsTest::fullFleet,
                (x, v) -> x.addDevice(1, v), -1, 8);
    }

    private static void devices() {
        range("promise 8: charge: the number of a device", INDEX, (x, v) -> x.charge(v, 50), 0, 3);
        range("promise 8: charge: battery 0 to 100", ARGUMENT, (x, v) -> x.charge(1, v), 0, 100);
        refused("promise 8: charge: no device comes before a wrong battery", INDEX, RefusalsTest::midway,
                (x, v) -> x.charge(v, 101), -1, 4);
        range("promise 9: setWindow: the number of a device", INDEX, (x, v) -> x.setWindow(v, 2, 3), 0, 3);
        range("promise 9: setWindow: first 0 to 23", ARGUMENT, (x, v) -> x.setWindow(1, v, 12), 0, 23);
        range("promise 9: setWindow: last 0 to 23", ARGUMENT, (x, v) -> x.setWindow(1, 12, v), 0, 23);
        refused("promise 9: setWindow: no device comes before a wrong first", INDEX, RefusalsTest::midway,
                (x, v) -> x.setWindow(v, 24, 3), -1, 4);
        refused("promise 9: setWindow: no device comes before a wrong last", INDEX, RefusalsTest::midway,
                (x, v) -> x.setWindow(v, 3, -1), -1, 4);
    }

    private static void report() {
        refused("promise 10: report: no such device", INDEX, RefusalsTest::midway,
                (x, v) -> x.report(v, true), -1, 4, 10, LEAST, MOST);
        refused("promise 10: report: no such device among none", INDEX, Told::new, (x, v) -> x.report(v, false), 0);
        refused("promise 10: report: of a device that loads", STATE, RefusalsTest::midway,
                (x, v) -> x.report(1, v == 1), 0, 1);
        refused("promise 10: report: of a device that is idle", STATE, RefusalsTest::midway,
                (x, v) -> x.report(2, v == 1), 0, 1);
        refused("promise 10: report: of a device that has reported", STATE, RefusalsTest::midway,
                (x, v) -> x.report(3, v == 1), 0, 1);
    }

    private static void askedOfDevices() {
        range("promise 12: state: the number of a device", INDEX, (x, v) -> x.state(v), 0, 3);
        range("promise 13: version: the number of a device", INDEX, (x, v) -> x.version(v), 0, 3);
        range("promise 14: campaignOf: the number of a device", INDEX, (x, v) -> x.campaignOf(v), 0, 3);
        range("promise 15: toGo: the number of a device", INDEX, (x, v) -> x.toGo(v), 0, 3);
        range("promise 16: battery: the number of a device", INDEX, (x, v) -> x.battery(v), 0, 3);
        refused("promises 8 to 16: 10 is no device of a full fleet", INDEX, RefusalsTest::fullFleet,
                (x, v) -> askOfDevice(x, v), 0, 1, 2, 3, 4, 5, 6);
    }

    private static void askOfDevice(Told x, int which) {
        switch (which) {
            case 0 -> x.charge(10, 5);
            case 1 -> x.setWindow(10, 1, 2);
            case 2 -> x.state(10);
            case 3 -> x.version(10);
            case 4 -> x.campaignOf(10);
            case 5 -> x.toGo(10);
            default -> x.battery(10);
        }
    }

    private static void begin() {
        range("promise 17: begin: target 0 to 7", INDEX, (x, v) -> x.begin(v, 5, 5, 0), 0, 7);
        range("promise 17: begin: kinds 0 to 15", ARGUMENT, (x, v) -> x.begin(1, v, 5, 0), 0, 15);
        range("promise 17: begin: versions 0 to 255", ARGUMENT, (x, v) -> x.begin(1, 5, v, 0), 0, 255);
        range("promise 17: begin: replaced the number of a campaign, or NONE", INDEX,
                (x, v) -> x.begin(1, 5, 5, v), NONE, 1);
        refused("promise 17: begin: replaced among no campaigns", INDEX, () -> Check.fleet(1),
                (x, v) -> x.begin(1, 5, 5, v), 0);
        refused("promise 17: begin: neither target nor replaced campaign", INDEX, RefusalsTest::midway,
                (x, v) -> x.begin(v, 5, 5, v * 2), -1, 8);
        refused("promise 17: begin: no target comes before wrong kinds", INDEX, RefusalsTest::midway,
                (x, v) -> x.begin(v, 16, 5, 0), -1, 8);
        refused("promise 17: begin: no target comes before wrong versions", INDEX, RefusalsTest::midway,
                (x, v) -> x.begin(v, 5, 256, 0), -1, 8);
        refused("promise 17: begin: no replaced campaign comes before wrong kinds", INDEX, RefusalsTest::midway,
                (x, v) -> x.begin(1, 16, 5, v), -2, 2);
        refused("promise 17: begin: no replaced campaign comes before wrong versions", INDEX, RefusalsTest::midway,
                (x, v) -> x.begin(1, 5, -1, v), -2, 2);
    }

    private static void beginFull() {
        refused("promise 17: begin: there are 6 campaigns, replaced or NONE", STATE, RefusalsTest::fullCampaigns,
                (x, v) -> x.begin(1, 5, 5, v), NONE, 0, 5);
        refused("promise 17: begin: no target comes before 6 campaigns", INDEX, RefusalsTest::fullCampaigns,
                (x, v) -> x.begin(v, 5, 5, 0), -1, 8);
        refused("promise 17: begin: no replaced campaign comes before 6 campaigns", INDEX,
                RefusalsTest::fullCampaigns, (x, v) -> x.begin(1, 5, 5, v), -2, 6);
        refused("promise 17: begin: wrong kinds come before 6 campaigns", ARGUMENT, RefusalsTest::fullCampaigns,
                (x, v) -> x.begin(1, v, 5, 0), -1, 16);
        refused("promise 17: begin: wrong versions come before 6 campaigns", ARGUMENT, RefusalsTest::fullCampaigns,
                (x, v) -> x.begin(1, 5, v, 0), -1, 256);
        refused("promise 17: begin: no target comes before wrong kinds and 6 campaigns", INDEX,
                RefusalsTest::fullCampaigns, (x, v) -> x.begin(v, 16, 256, 0), -1, 8);
    }

    private static void setRules() {
        range("promise 18: setRules: the number of a campaign", INDEX, (x, v) -> x.setRules(v, 30, 40, 2, 5), 0, 1);
        range("promise 18: setRules: first 0 to 100", ARGUMENT, (x, v) -> x.setRules(0, v, 100, 2, 5), 0, 100);
        range("promise 18: setRules: second 0 to 100 behind a first of 0", ARGUMENT,
                (x, v) -> x.setRules(0, 0, v, 2, 5), 0, 100);
        range("promise 18: setRules: second from first on", ARGUMENT, (x, v) -> x.setRules(0, 30, v, 2, 5), 30, 100);
        range("promise 18: setRules: second 100 behind a first of 100", ARGUMENT,
                (x, v) -> x.setRules(0, 100, v, 2, 5), 100, 100);
        range("promise 18: setRules: needs 1 to 10", ARGUMENT, (x, v) -> x.setRules(0, 30, 40, v, 5), 1, 10);
        range("promise 18: setRules: thousandths 0 to 1000", ARGUMENT, (x, v) -> x.setRules(0, 30, 40, 2, v), 0, 1000);
        refused("promise 18: setRules: all four out of range", ARGUMENT, RefusalsTest::midway,
                (x, v) -> x.setRules(0, v, v - 1, v, v), -1, 1001);
        refused("promise 18: setRules: a first beyond 100 with a second from it on", ARGUMENT, RefusalsTest::midway,
                (x, v) -> x.setRules(0, v, v, 2, 5), 101, -1);
    }

    private static void setRulesOfNone() {
        refused("promise 18: setRules: no campaign comes before a wrong first", INDEX, RefusalsTest::midway,
                (x, v) -> x.setRules(v, 101, 101, 2, 5), -1, 2);
        refused("promise 18: setRules: no campaign comes before a wrong second", INDEX, RefusalsTest::midway,
                (x, v) -> x.setRules(v, 30, 29, 2, 5), -1, 2);
        refused("promise 18: setRules: no campaign comes before wrong needs", INDEX, RefusalsTest::midway,
                (x, v) -> x.setRules(v, 30, 40, 0, 5), -1, 2);
        refused("promise 18: setRules: no campaign comes before wrong thousandths", INDEX, RefusalsTest::midway,
                (x, v) -> x.setRules(v, 30, 40, 2, 1001), -1, 2);
    }

    private static void askedOfCampaigns() {
        range("promise 19: toggle: the number of a campaign", INDEX, (x, v) -> x.toggle(v), 0, 1);
        range("promise 20: isActive: the number of a campaign", INDEX, (x, v) -> x.isActive(v), 0, 1);
        range("promise 21: ring: the number of a campaign", INDEX, (x, v) -> x.ring(v), 0, 1);
        range("promise 22: reports: the number of a campaign", INDEX, (x, v) -> x.reports(v), 0, 1);
        range("promise 23: eligible: the number of a campaign", INDEX, (x, v) -> x.eligible(v), 0, 1);
        refused("promises 18 to 23: 6 is no campaign of a full list", INDEX, RefusalsTest::fullCampaigns,
                (x, v) -> askOfCampaign(x, v), 0, 1, 2, 3, 4, 5);
    }

    private static void askOfCampaign(Told x, int which) {
        switch (which) {
            case 0 -> x.setRules(6, 30, 40, 2, 5);
            case 1 -> x.toggle(6);
            case 2 -> x.isActive(6);
            case 3 -> x.ring(6);
            case 4 -> x.reports(6);
            default -> x.eligible(6);
        }
    }

    private static void pass() {
        range("promise 24: pass: hours 1 to 100", ARGUMENT, (x, v) -> x.pass(v), 1, 100);
        refused("promise 24: pass: wrong hours of an empty fleet", ARGUMENT, Told::new, (x, v) -> x.pass(v), 0, 101);
    }
}
