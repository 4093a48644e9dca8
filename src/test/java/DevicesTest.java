/** Promises 7 to 16: devices, their batteries, windows and reports, and what is asked of them. */
final class DevicesTest {
    private static final int NONE = Ringroll.NONE;
    private static final int[] NO_SUCH = {-1, 2, 10, Integer.MIN_VALUE, Integer.MAX_VALUE};

    private DevicesTest() {
    }

    static void run() {
        Check.test("promise 7: addDevice numbers from 0 up to 10 devices", DevicesTest::addNumbers);
        Check.test("promise 7: addDevice keeps kind and version", DevicesTest::addKeeps);
        Check.test("promise 8: charge answers the battery before", DevicesTest::chargeAnswers);
        Check.test("promise 9: setWindow, every window at every hour", DevicesTest::allWindows);
        Check.test("promise 9: setWindow is a device's own", DevicesTest::windowOfOne);
        Check.test("promise 9: setWindow refuses", DevicesTest::windowRefuses);
        Check.test("promise 10: a device that is well has the target", DevicesTest::reportWell);
        Check.test("promise 10: a device that is not well keeps its version", DevicesTest::reportIll);
        Check.test("promise 10: report refuses", DevicesTest::reportRefuses);
        Check.test("promise 11: devices counts what was told", DevicesTest::devicesCount);
        Check.test("promises 12, 14 and 15: from idle over loading to trial and back", DevicesTest::life);
        Check.test("promise 13: version is the device's own", DevicesTest::versionOfOne);
        Check.test("promise 16: battery is 100 at first, and less by loading", DevicesTest::batteryOfOne);
    }

    private static void addNumbers() {
        Told x = new Told();
        for (int d = 0; d < 10; d++) {
            Check.same("addDevice", d, x.addDevice(d % 4, d % 8));
            Check.same("devices()", d + 1, x.devices());
        }
        Check.refuses("addDevice, the eleventh", Check.STATE, x, () -> x.addDevice(0, 0));
        Check.same("devices()", 10, x.devices());
        Check.same("version(9)", 1, x.version(9));
    }

    private static void addKeeps() {
        Told x = new Told();
        x.setImage(7, 1);
        for (int d = 0; d < 8; d++) {
            x.addDevice(d % 4, d);
            Check.same("version(" + d + ")", d, x.version(d));
            Check.same("state(" + d + ")", Ringroll.IDLE, x.state(d));
            Check.same("campaignOf(" + d + ")", NONE, x.campaignOf(d));
            Check.same("toGo(" + d + ")", 0, x.toGo(d));
            Check.same("battery(" + d + ")", 100, x.battery(d));
        }
        for (int kind = 0; kind < 4; kind++) {
            int campaign = x.begin(7, 1 << kind, 255, NONE);
            x.setRules(campaign, 100, 100, 10, 0);
            Check.same("eligible of the kind " + kind, (17 << kind) & 127, x.eligible(campaign));
        }
    }

    private static void chargeAnswers() {
        Told x = Check.fleet(2);
        Check.same("charge(0, 0)", 100, x.charge(0, 0));
        Check.same("charge(0, 100)", 0, x.charge(0, 100));
        Check.same("charge(0, 57)", 100, x.charge(0, 57));
        Check.same("battery(0)", 57, x.battery(0));
        Check.same("battery(1)", 100, x.battery(1));
        Check.same("charge(1, 1)", 100, x.charge(1, 1));
        Check.same("charge(0, 2)", 57, x.charge(0, 2));
    }

    private static void allWindows() {
        for (int first = 0; first < 24; first++) {
            for (int last = 0; last < 24; last++) {
                Told x = new Told();
                x.setImage(1, 100000);
                x.addDevice(0, 0);
                x.setWindow(0, first, last);
                Check.beginForAll(x, 1, 1, 0);
                for (int hour = 0; hour < 26; hour++) {
                    int before = x.battery(0);
                    x.pass(1);
                    boolean isIn = Math.floorMod(hour - first, 24) <= Math.floorMod(last - first, 24);
                    Check.same("loading at " + hour + " in " + first + " to " + last, isIn ? 1 : 0,
                            before - x.battery(0));
                }
            }
        }
    }

    private static void windowOfOne() {
        Told x = Check.fleet(2);
        x.setWindow(1, 5, 5);
        Check.beginForAll(x, 1, 10, 0);
        Check.same("pass(5)", 1, x.pass(5));
        Check.same("state(0)", Ringroll.TRIAL, x.state(0));
        Check.same("state(1)", Ringroll.LOADS, x.state(1));
        Check.same("pass(1)", 1, x.pass(1));
        Check.same("state(1)", Ringroll.TRIAL, x.state(1));
    }

    private static void windowRefuses() {
        Told x = Check.fleet(2);
        x.setWindow(0, 3, 3);
        for (int hour : new int[] {-1, 24, Integer.MIN_VALUE, Integer.MAX_VALUE}) {
            Check.refuses("setWindow(0, " + hour + ", 0)", Check.ARGUMENT, x, () -> x.setWindow(0, hour, 0));
            Check.refuses("setWindow(0, 0, " + hour + ")", Check.ARGUMENT, x, () -> x.setWindow(0, 0, hour));
        }
        for (int device : NO_SUCH) {
            Check.refuses("setWindow(" + device + ", 0, 0)", Check.INDEX, x, () -> x.setWindow(device, 0, 0));
            Check.refuses("setWindow(" + device + ", 24, -1)", Check.INDEX, x, () -> x.setWindow(device, 24, -1));
        }
        Check.beginForAll(x, 1, 10, 0);
        x.pass(3);
        Check.same("state(0)", Ringroll.LOADS, x.state(0));
        x.pass(1);
        Check.same("state(0)", Ringroll.TRIAL, x.state(0));
    }

    private static void reportWell() {
        Told x = Check.fleet(2);
        Check.beginForAll(x, 3, 10, 0);
        x.pass(1);
        Check.same("version(1) on trial", 0, x.version(1));
        Check.same("report(1, true)", 3, x.report(1, true));
        Check.same("version(1)", 3, x.version(1));
        Check.same("state(1)", Ringroll.IDLE, x.state(1));
        Check.same("campaignOf(1)", NONE, x.campaignOf(1));
        Check.same("state(0)", Ringroll.TRIAL, x.state(0));
        Check.same("reports(0)", 1, x.reports(0));
    }

    private static void reportIll() {
        Told x = Check.fleet(1);
        Check.beginForAll(x, 3, 10, 0);
        x.pass(1);
        Check.same("report(0, false)", 0, x.report(0, false));
        Check.same("version(0)", 0, x.version(0));
        Check.same("state(0)", Ringroll.IDLE, x.state(0));
        Check.same("campaignOf(0)", NONE, x.campaignOf(0));
        Check.same("reports(0)", 1, x.reports(0));
        Check.same("eligible(0), for it has reported", 0, x.eligible(0));
    }

    private static void reportRefuses() {
        Told x = Check.fleet(2);
        x.setImage(2, 500);
        Check.refuses("report of an idle device", Check.STATE, x, () -> x.report(0, true));
        Check.beginForAll(x, 2, 10, 0);
        x.pass(1);
        Check.refuses("report of a loading device", Check.STATE, x, () -> x.report(0, true));
        x.pass(4);
        for (int device : NO_SUCH) {
            Check.refuses("report(" + device + ", true)", Check.INDEX, x, () -> x.report(device, true));
            Check.refuses("report(" + device + ", false)", Check.INDEX, x, () -> x.report(device, false));
        }
        Check.same("report(0, true)", 2, x.report(0, true));
        Check.refuses("a second report", Check.STATE, x, () -> x.report(0, true));
        Check.refuses("a second report", Check.STATE, x, () -> x.report(0, false));
    }

    private static void devicesCount() {
        Told x = new Told();
        Check.same("devices()", 0, x.devices());
        x.addDevice(0, 0);
        Check.same("devices()", 1, x.devices());
        Check.refuses("addDevice(0, 8)", Check.INDEX, x, () -> x.addDevice(0, 8));
        Check.same("devices()", 1, x.devices());
        x.addDevice(0, 0);
        Check.same("devices()", 2, x.devices());
    }

    private static void asks(Told x, int device, int state, int campaign, int toGo) {
        Check.same("state(" + device + ")", state, x.state(device));
        Check.same("campaignOf(" + device + ")", campaign, x.campaignOf(device));
        Check.same("toGo(" + device + ")", toGo, x.toGo(device));
    }

    private static void life() {
        Told x = Check.fleet(2);
        x.setImage(2, 201);
        x.begin(0, 15, 255, NONE);
        Check.beginForAll(x, 2, 10, 0);
        asks(x, 0, Ringroll.IDLE, NONE, 0);
        x.setWindow(0, 1, 23);
        x.pass(1);
        asks(x, 0, Ringroll.LOADS, 1, 201);
        asks(x, 1, Ringroll.LOADS, 1, 101);
        x.pass(1);
        asks(x, 0, Ringroll.LOADS, 1, 101);
        asks(x, 1, Ringroll.LOADS, 1, 1);
        x.pass(1);
        asks(x, 0, Ringroll.LOADS, 1, 1);
        asks(x, 1, Ringroll.TRIAL, 1, 0);
        x.pass(1);
        asks(x, 0, Ringroll.TRIAL, 1, 0);
        x.report(1, true);
        asks(x, 0, Ringroll.TRIAL, 1, 0);
        asks(x, 1, Ringroll.IDLE, NONE, 0);
        x.report(0, false);
        asks(x, 0, Ringroll.IDLE, NONE, 0);
    }

    private static void versionOfOne() {
        Told x = Check.fleet(0);
        x.addDevice(1, 7);
        x.addDevice(1, 0);
        Check.same("version(0)", 7, x.version(0));
        Check.same("version(1)", 0, x.version(1));
        x.begin(7, 15, 255, NONE);
        x.setRules(0, 100, 100, 10, 0);
        x.pass(1);
        x.report(1, true);
        Check.same("version(0)", 7, x.version(0));
        Check.same("version(1)", 7, x.version(1));
    }

    private static void batteryOfOne() {
        Told x = Check.fleet(2);
        x.setImage(1, 300);
        x.charge(1, 50);
        Check.beginForAll(x, 1, 10, 0);
        x.pass(2);
        Check.same("battery(0)", 98, x.battery(0));
        Check.same("battery(1)", 48, x.battery(1));
        x.pass(5);
        Check.same("battery(0), on trial", 97, x.battery(0));
        Check.same("battery(1), on trial", 47, x.battery(1));
        x.report(0, true);
        x.pass(5);
        Check.same("battery(0), idle", 97, x.battery(0));
    }
}
