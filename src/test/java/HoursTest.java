/** Promise 24: what an hour does to each device. */
final class HoursTest {
    private static final int NONE = Ringroll.NONE;

    private HoursTest() {
    }

    static void run() {
        Check.test("promise 24: pass refuses", HoursTest::passRefuses);
        Check.test("promise 24: 1 and 100 hours pass", HoursTest::fewAndMany);
        Check.test("promise 24: hundreds in steps of 100, and the rest", HoursTest::steps);
        Check.test("promise 24: the lowest campaign is taken", HoursTest::lowestCampaign);
        Check.test("promise 24: the size of the hour in which it is taken", HoursTest::sizeOfThen);
        Check.test("promise 24: a battery below 20 does not load", HoursTest::batteries);
        Check.test("promise 24: a download is resumed", HoursTest::resumed);
        Check.test("promise 24: the clock goes on over days and calls", HoursTest::clock);
        Check.test("promise 24: a trial waits for its report", HoursTest::trialWaits);
        Check.test("promise 24: an idle device takes the next campaign in the hour after its report", HoursTest::nextCampaign);
        Check.test("promise 24: all devices that come on trial are counted", HoursTest::counted);
        Check.test("promise 24: the document's run of rings", HoursTest::wholeRollout);
    }

    private static void passRefuses() {
        Told x = Check.fleet(2);
        x.setWindow(0, 1, 1);
        Check.beginForAll(x, 1, 10, 0);
        for (int hours : new int[] {0, -1, 101, Integer.MIN_VALUE, Integer.MAX_VALUE}) {
            Check.refuses("pass(" + hours + ")", Check.ARGUMENT, x, () -> x.pass(hours));
        }
        Check.same("pass(1), the hour 0", 1, x.pass(1));
        Check.same("pass(1), the hour 1", 1, x.pass(1));
    }

    private static void fewAndMany() {
        Told x = Check.fleet(1);
        x.setImage(1, 10000);
        Check.beginForAll(x, 1, 10, 0);
        Check.same("pass(1)", 0, x.pass(1));
        Check.same("toGo(0)", 9900, x.toGo(0));
        Check.same("pass(100)", 0, x.pass(100));
        Check.same("battery(0)", 19, x.battery(0));
        Check.same("toGo(0)", 1900, x.toGo(0));
        x.charge(0, 100);
        Check.same("pass(18)", 0, x.pass(18));
        Check.same("pass(1)", 1, x.pass(1));
    }

    private static void steps() {
        int[] sizes = {1, 99, 100, 101, 199, 200, 201, 7900, 7901, 8000};
        int[] hours = {1, 1, 1, 2, 2, 2, 3, 79, 80, 80};
        for (int i = 0; i < sizes.length; i++) {
            Told x = Check.fleet(1);
            x.setImage(1, sizes[i]);
            Check.beginForAll(x, 1, 10, 0);
            if (hours[i] > 1) {
                Check.same("hours but one for " + sizes[i], 0, x.pass(hours[i] - 1));
                Check.same("state(0)", Ringroll.LOADS, x.state(0));
                Check.same("toGo(0)", sizes[i] - 100 * (hours[i] - 1), x.toGo(0));
            }
            Check.same("the last hour for " + sizes[i], 1, x.pass(1));
            Check.same("state(0)", Ringroll.TRIAL, x.state(0));
            Check.same("toGo(0)", 0, x.toGo(0));
            Check.same("battery(0)", 100 - hours[i], x.battery(0));
        }
    }

    private static void lowestCampaign() {
        Told x = Check.fleet(1);
        Check.beginForAll(x, 1, 10, 0);
        Check.beginForAll(x, 2, 10, 0);
        Check.beginForAll(x, 3, 10, 0);
        x.toggle(0);
        x.pass(1);
        Check.same("campaignOf(0)", 1, x.campaignOf(0));
        x.toggle(0);
        x.pass(1);
        Check.same("campaignOf(0), on trial", 1, x.campaignOf(0));
        x.report(0, true);
        x.pass(1);
        Check.same("campaignOf(0)", 0, x.campaignOf(0));
    }

    private static void sizeOfThen() {
        Told x = Check.fleet(2);
        x.setImage(1, NONE);
        x.setWindow(0, 3, 3);
        x.setWindow(1, 3, 3);
        Check.beginForAll(x, 1, 10, 0);
        Check.same("pass(1), without a way", 0, x.pass(1));
        Check.same("state(0)", Ringroll.IDLE, x.state(0));
        x.setDelta(0, 1, 700);
        Check.same("pass(1), not in the window", 0, x.pass(1));
        Check.same("toGo(0)", 700, x.toGo(0));
        Check.same("battery(0)", 100, x.battery(0));
        x.addDevice(0, 0);
        x.setDelta(0, 1, NONE);
        x.setImage(1, 50);
        Check.same("toGo(0)", 700, x.toGo(0));
        Check.same("pass(1)", 1, x.pass(1));
        Check.same("state(2)", Ringroll.TRIAL, x.state(2));
        x.setImage(1, NONE);
        Check.same("pass(1)", 0, x.pass(1));
        Check.same("toGo(0)", 600, x.toGo(0));
        Check.same("toGo(1)", 600, x.toGo(1));
    }

    private static void batteries() {
        for (int battery = 0; battery <= 100; battery++) {
            Told x = Check.fleet(1);
            x.charge(0, battery);
            Check.beginForAll(x, 1, 10, 0);
            int due = battery >= 20 ? 1 : 0;
            Check.same("pass(1) with the battery " + battery, due, x.pass(1));
            Check.same("state(0) with the battery " + battery, due == 1 ? Ringroll.TRIAL : Ringroll.LOADS, x.state(0));
            Check.same("battery(0)", battery - due, x.battery(0));
            Check.same("toGo(0)", due == 1 ? 0 : 100, x.toGo(0));
        }
    }

    private static void resumed() {
        Told x = Check.fleet(1);
        x.setImage(1, 500);
        x.charge(0, 21);
        Check.beginForAll(x, 1, 10, 0);
        Check.same("pass(30)", 0, x.pass(30));
        Check.same("toGo(0)", 300, x.toGo(0));
        Check.same("battery(0)", 19, x.battery(0));
        x.charge(0, 20);
        Check.same("pass(30)", 0, x.pass(30));
        Check.same("toGo(0)", 200, x.toGo(0));
        x.charge(0, 100);
        x.setWindow(0, 0, 11);
        Check.same("pass(12), the hours 12 to 23", 0, x.pass(12));
        Check.same("toGo(0)", 200, x.toGo(0));
        Check.same("pass(2)", 1, x.pass(2));
        Check.same("battery(0)", 98, x.battery(0));
    }

    private static void clock() {
        Told x = Check.fleet(1);
        x.setImage(1, 100000);
        x.setWindow(0, 23, 0);
        Check.beginForAll(x, 1, 10, 0);
        int hour = 0;
        for (int call = 0; call < 120; call++) {
            int hours = call * 7 % 100 + 1;
            x.charge(0, 100);
            x.pass(hours);
            int loads = 0;
            for (int h = 0; h < hours; h++) {
                loads += (hour + h) % 24 == 23 || (hour + h) % 24 == 0 ? 1 : 0;
            }
            hour += hours;
            Check.same("hours of loading in the call " + call, loads, 100 - x.battery(0));
        }
    }

    private static void trialWaits() {
        Told x = Check.fleet(1);
        Check.beginForAll(x, 1, 10, 0);
        Check.beginForAll(x, 2, 10, 0);
        Check.same("pass(100)", 1, x.pass(100));
        Check.same("pass(100)", 0, x.pass(100));
        Check.same("state(0)", Ringroll.TRIAL, x.state(0));
        Check.same("campaignOf(0)", 0, x.campaignOf(0));
        Check.same("battery(0)", 99, x.battery(0));
        Check.same("version(0)", 0, x.version(0));
    }

    private static void nextCampaign() {
        Told x = Check.fleet(1);
        Check.beginForAll(x, 1, 10, 1000);
        x.pass(1);
        x.report(0, false);
        Check.same("pass(50), for it has reported", 0, x.pass(50));
        Check.beginForAll(x, 1, 10, 1000);
        Check.same("pass(1)", 1, x.pass(1));
        Check.same("campaignOf(0)", 1, x.campaignOf(0));
        Check.same("report(0, true)", 1, x.report(0, true));
        Check.same("pass(50), for it has the target", 0, x.pass(50));
        Check.same("reports(0)", 1, x.reports(0));
        Check.same("reports(1)", 1, x.reports(1));
    }

    private static void counted() {
        Told x = Check.fleet(10);
        x.setImage(1, 1000);
        for (int d = 0; d < 10; d++) {
            x.setWindow(d, d, 23);
        }
        Check.beginForAll(x, 1, 10, 0);
        for (int hour = 0; hour < 20; hour++) {
            Check.same("pass(1) at " + hour, hour >= 9 && hour < 19 ? 1 : 0, x.pass(1));
        }
        Told y = Check.fleet(10);
        y.setImage(1, 1000);
        Check.beginForAll(y, 1, 10, 0);
        Check.same("pass(9)", 0, y.pass(9));
        Check.same("pass(91)", 10, y.pass(91));
    }

    private static void wholeRollout() {
        Told x = Check.fleet(10);
        x.begin(1, 15, 255, NONE);
        x.setRules(0, 20, 50, 2, 500);
        Check.same("pass(10), the draws 13 and 9", 2, x.pass(10));
        x.report(0, true);
        x.report(8, false);
        Check.same("ring(0)", 1, x.ring(0));
        Check.same("pass(10), the draws 24, 35 and 46", 3, x.pass(10));
        x.report(3, true);
        x.report(6, true);
        Check.same("ring(0)", 2, x.ring(0));
        x.report(9, false);
        Check.same("pass(10), all others", 5, x.pass(10));
        x.report(1, false);
        Check.no("isActive(0)", x.isActive(0));
        x.report(2, true);
        Check.same("reports(0)", 3, x.reports(0));
        Check.same("version(2)", 1, x.version(2));
    }
}
