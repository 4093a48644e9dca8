/** Boundary cases of versions, devices and hours, a test each; those of refused calls stand in RefusalsTest. */
final class EdgesTest {
    private static final int NONE = Ringroll.NONE;

    private EdgesTest() {
    }

    static void run() {
        versions();
        ways();
        devices();
        windows();
        batteries();
        loads();
        hours();
    }

    private static void versions() {
        Check.test("edge: a version may run on all kinds at first", EdgesTest::allKindsAtFirst);
        Check.test("edge: the kinds 0 and 3 are a set's lowest and highest bit", EdgesTest::bitsOfKinds);
        Check.test("edge: a version may run on no kind", EdgesTest::noKind);
        Check.test("edge: at first there is no image", EdgesTest::noImageAtFirst);
        Check.test("edge: at first there is no delta", EdgesTest::noDeltaAtFirst);
        Check.test("edge: the least and the largest size", EdgesTest::endsOfSizes);
        Check.test("edge: a size is taken away by NONE, also where there was none", EdgesTest::takenAway);
    }

    private static void ways() {
        Check.test("edge: the size of a version to itself is 0", EdgesTest::sizeToItself);
        Check.test("edge: no way, so NONE: against a delta", EdgesTest::againstDelta);
        Check.test("edge: no way, so NONE: the image of the first version alone", EdgesTest::imageOfTheFirst);
        Check.test("edge: no way, so NONE: an image that leads elsewhere", EdgesTest::imageElsewhere);
        Check.test("edge: a way of one delta", EdgesTest::oneDelta);
        Check.test("edge: a way that is the image of the other version alone", EdgesTest::imageAlone);
        Check.test("edge: a way that begins at the image of a version between", EdgesTest::imageBetween);
        Check.test("edge: the deltas before an image do not count", EdgesTest::deltasBeforeImage);
        Check.test("edge: two ways of the same size", EdgesTest::sameSize);
        Check.test("edge: a way is less by 1", EdgesTest::lessByOne);
        Check.test("edge: deltas in a circle", EdgesTest::circle);
        Check.test("edge: a way of seven deltas", EdgesTest::sevenDeltas);
        Check.test("edge: a way of an image and six deltas", EdgesTest::imageAndSixDeltas);
        Check.test("edge: a way of an image and seven deltas is never the least", EdgesTest::imageAndSevenDeltas);
        Check.test("edge: ways do not ask on which kinds the versions run", EdgesTest::waysWithoutKinds);
    }

    private static void devices() {
        Check.test("edge: a fleet without devices", EdgesTest::noDevices);
        Check.test("edge: a fleet without campaigns", EdgesTest::noCampaigns);
        Check.test("edge: the tenth device", EdgesTest::tenthDevice);
        Check.test("edge: ten devices at once", EdgesTest::tenDevices);
        Check.test("edge: a device that is told between hours", EdgesTest::lateDevice);
        Check.test("edge: toGo is 0 if a device does not load", EdgesTest::toGoOfNoLoad);
        Check.test("edge: a refused addDevice takes no number", EdgesTest::numbersStay);
        Check.test("edge: a device that is told is at first idle, full, and awake", EdgesTest::deviceAtFirst);
    }

    private static void windows() {
        Check.test("edge: a window's first and last hour are counted", EdgesTest::bothHours);
        Check.test("edge: a window of one hour", EdgesTest::oneHour);
        Check.test("edge: a window over midnight", EdgesTest::overMidnight);
        Check.test("edge: a window from 23 to 0", EdgesTest::twoHoursAtMidnight);
        Check.test("edge: a window from an hour to the one before it is the whole day", EdgesTest::wholeDayTurned);
        Check.test("edge: a window from 0 to 23 is the whole day", EdgesTest::wholeDay);
        Check.test("edge: a window of the hour 0, and of the hour 23", EdgesTest::firstAndLastHour);
        Check.test("edge: a window that is set while the device loads", EdgesTest::windowWhileLoading);
        Check.test("edge: a campaign is taken outside of the window", EdgesTest::takenOutside);
    }

    private static void batteries() {
        Check.test("edge: a battery of 20 loads, and is 19 then", EdgesTest::batteryOfTwenty);
        Check.test("edge: a battery of 19 does not load", EdgesTest::batteryOfNineteen);
        Check.test("edge: a battery of 0 takes a campaign, and does not load", EdgesTest::emptyBattery);
        Check.test("edge: a battery is charged to 20 while the device loads", EdgesTest::chargedWhileLoading);
        Check.test("edge: a battery is not used outside of the window", EdgesTest::unusedOutside);
    }

    private static void loads() {
        Check.test("edge: a size of 1", () -> loaded(1, 1));
        Check.test("edge: a size of 99", () -> loaded(99, 1));
        Check.test("edge: a size of 100", () -> loaded(100, 1));
        Check.test("edge: a size of 101", () -> loaded(101, 2));
        Check.test("edge: a size of 200", () -> loaded(200, 2));
        Check.test("edge: a size of 250, no multiple of 100", () -> loaded(250, 3));
        Check.test("edge: a size of 8100, until the battery is 19", () -> loaded(8100, 81));
        Check.test("edge: a size of 8101, one hour more than the battery bears", EdgesTest::beyondBattery);
        Check.test("edge: the largest size of a download", EdgesTest::largestDownload);
        Check.test("edge: the size changes while the device loads", EdgesTest::sizeWhileLoading);
        Check.test("edge: the target may no more run on the kind while the device loads", EdgesTest::kindWhileLoading);
    }

    private static void hours() {
        Check.test("edge: the clock begins with 0", EdgesTest::clockAtFirst);
        Check.test("edge: behind the hour 23 comes the hour 0", EdgesTest::behindTwentyThree);
        Check.test("edge: 100 hours are four days and four hours", EdgesTest::hundredHours);
        Check.test("edge: 100 hours at once are 100 single ones", EdgesTest::hundredSingleHours);
        Check.test("edge: the clock goes on without devices", EdgesTest::clockWithoutDevices);
        Check.test("edge: the call 512 is answered as any", EdgesTest::lastCall);
    }

    private static void sizes(Told x, int from, int to, int due) {
        Check.same("size(" + from + ", " + to + ")", due, x.size(from, to));
        Check.same("sizeByWays(" + from + ", " + to + ")", due, x.sizeByWays(from, to));
    }

    private static void asked(Told x, int device, int state, int campaign, int toGo, int battery) {
        Check.same("state(" + device + ")", state, x.state(device));
        Check.same("campaignOf(" + device + ")", campaign, x.campaignOf(device));
        Check.same("toGo(" + device + ")", toGo, x.toGo(device));
        Check.same("battery(" + device + ")", battery, x.battery(device));
    }

    // ---- versions

    private static void allKindsAtFirst() {
        for (int version = 0; version < 8; version++) {
            Told x = new Told();
            for (int kind = 0; kind < 4; kind++) {
                Check.same("addDevice(" + kind + ", " + version + ")", kind, x.addDevice(kind, version));
            }
            Check.same("allow(" + version + ", 15)", 15, x.allow(version, 15));
        }
    }

    private static void bitsOfKinds() {
        Told x = new Told();
        x.allow(0, 1);
        x.allow(7, 8);
        Check.same("addDevice(0, 0)", 0, x.addDevice(0, 0));
        Check.same("addDevice(3, 7)", 1, x.addDevice(3, 7));
        Check.refuses("addDevice(3, 0)", Check.STATE, x, () -> x.addDevice(3, 0));
        Check.refuses("addDevice(0, 7)", Check.STATE, x, () -> x.addDevice(0, 7));
        Check.refuses("addDevice(1, 0)", Check.STATE, x, () -> x.addDevice(1, 0));
        Check.refuses("addDevice(2, 7)", Check.STATE, x, () -> x.addDevice(2, 7));
    }

    private static void noKind() {
        Told x = Check.fleet(1);
        x.allow(1, 0);
        for (int kind = 0; kind < 4; kind++) {
            int of = kind;
            Check.refuses("addDevice(" + kind + ", 1)", Check.STATE, x, () -> x.addDevice(of, 1));
        }
        Check.beginForAll(x, 1, 1, 0);
        Check.same("eligible(0)", 0, x.eligible(0));
        Check.same("pass(100)", 0, x.pass(100));
        Check.same("allow(1, 1)", 0, x.allow(1, 1));
        Check.same("eligible(0)", 1, x.eligible(0));
    }

    private static void noImageAtFirst() {
        Told x = new Told();
        for (int version = 0; version < 8; version++) {
            Check.same("setImage(" + version + ", 100000)", NONE, x.setImage(version, 100000));
            Check.same("setImage(" + version + ", 1)", 100000, x.setImage(version, 1));
        }
    }

    private static void noDeltaAtFirst() {
        Told x = new Told();
        for (int from = 0; from < 8; from++) {
            for (int to = 0; to < 8; to++) {
                if (from != to) {
                    sizes(x, from, to, NONE);
                    Check.same("setDelta(" + from + ", " + to + ", NONE)", NONE, x.setDelta(from, to, NONE));
                }
            }
        }
    }

    private static void endsOfSizes() {
        Told x = new Told();
        x.setImage(3, 1);
        sizes(x, 0, 3, 1);
        x.setImage(3, 100000);
        sizes(x, 0, 3, 100000);
        x.setImage(3, NONE);
        x.setDelta(0, 3, 1);
        sizes(x, 0, 3, 1);
        x.setDelta(0, 3, 100000);
        sizes(x, 0, 3, 100000);
    }

    private static void takenAway() {
        Told x = new Told();
        Check.same("setImage(2, NONE)", NONE, x.setImage(2, NONE));
        Check.same("setImage(2, 30)", NONE, x.setImage(2, 30));
        Check.same("setImage(2, NONE)", 30, x.setImage(2, NONE));
        Check.same("setImage(2, NONE)", NONE, x.setImage(2, NONE));
        sizes(x, 0, 2, NONE);
        Check.same("setDelta(0, 2, NONE)", NONE, x.setDelta(0, 2, NONE));
        Check.same("setDelta(0, 2, 30)", NONE, x.setDelta(0, 2, 30));
        Check.same("setDelta(0, 2, NONE)", 30, x.setDelta(0, 2, NONE));
        Check.same("setDelta(0, 2, NONE)", NONE, x.setDelta(0, 2, NONE));
        sizes(x, 0, 2, NONE);
    }

    // ---- ways

    private static void sizeToItself() {
        for (int version = 0; version < 8; version++) {
            int other = (version + 1) % 8;
            Told x = new Told();
            sizes(x, version, version, 0);
            x.setImage(version, 7);
            sizes(x, version, version, 0);
            x.setDelta(version, other, 1);
            x.setDelta(other, version, 1);
            sizes(x, version, version, 0);
        }
    }

    private static void againstDelta() {
        Told x = new Told();
        x.setDelta(0, 7, 10);
        x.setDelta(3, 2, 10);
        sizes(x, 7, 0, NONE);
        sizes(x, 2, 3, NONE);
        sizes(x, 0, 2, NONE);
        sizes(x, 3, 7, NONE);
    }

    private static void imageOfTheFirst() {
        Told x = new Told();
        x.setImage(4, 10);
        for (int to = 0; to < 8; to++) {
            sizes(x, 4, to, to == 4 ? 0 : NONE);
        }
    }

    private static void imageElsewhere() {
        Told x = new Told();
        x.setImage(4, 10);
        x.setDelta(4, 5, 10);
        sizes(x, 0, 5, 20);
        sizes(x, 0, 6, NONE);
        sizes(x, 5, 0, NONE);
    }

    private static void oneDelta() {
        for (int from = 0; from < 8; from++) {
            Told x = new Told();
            for (int to = 0; to < 8; to++) {
                if (from != to) {
                    x.setDelta(from, to, 10 + to);
                }
            }
            for (int to = 0; to < 8; to++) {
                sizes(x, from, to, from == to ? 0 : 10 + to);
                sizes(x, to, from, from == to ? 0 : NONE);
            }
        }
    }

    private static void imageAlone() {
        for (int to = 0; to < 8; to++) {
            Told x = new Told();
            x.setImage(to, 60 + to);
            for (int from = 0; from < 8; from++) {
                sizes(x, from, to, from == to ? 0 : 60 + to);
            }
        }
    }

    private static void imageBetween() {
        Told x = new Told();
        x.setDelta(5, 6, 40);
        sizes(x, 0, 6, NONE);
        x.setImage(5, 3);
        sizes(x, 0, 6, 43);
        sizes(x, 7, 6, 43);
        sizes(x, 5, 6, 40);
        x.setImage(6, 43);
        sizes(x, 0, 6, 43);
        x.setImage(6, 42);
        sizes(x, 0, 6, 42);
        sizes(x, 5, 6, 40);
        x.setImage(6, 39);
        sizes(x, 5, 6, 39);
    }

    private static void deltasBeforeImage() {
        Told x = new Told();
        x.setDelta(0, 1, 10);
        x.setImage(2, 20);
        x.setDelta(2, 3, 5);
        sizes(x, 0, 3, 25);
        x.setDelta(1, 2, 16);
        sizes(x, 0, 3, 25);
        x.setDelta(1, 2, 9);
        sizes(x, 0, 3, 24);
    }

    private static void sameSize() {
        Told x = new Told();
        x.setDelta(0, 1, 10);
        x.setDelta(1, 2, 10);
        x.setDelta(0, 2, 20);
        x.setImage(2, 20);
        sizes(x, 0, 2, 20);
        x.setDelta(0, 2, NONE);
        sizes(x, 0, 2, 20);
        x.setImage(2, NONE);
        sizes(x, 0, 2, 20);
    }

    private static void lessByOne() {
        Told x = new Told();
        x.setDelta(0, 1, 10);
        x.setDelta(1, 2, 10);
        x.setDelta(0, 2, 21);
        sizes(x, 0, 2, 20);
        x.setDelta(0, 2, 19);
        sizes(x, 0, 2, 19);
        x.setImage(2, 18);
        sizes(x, 0, 2, 18);
        x.setImage(1, 7);
        sizes(x, 0, 2, 17);
    }

    private static void circle() {
        Told x = new Told();
        x.setDelta(0, 1, 1);
        x.setDelta(1, 2, 1);
        x.setDelta(2, 0, 1);
        sizes(x, 0, 3, NONE);
        sizes(x, 0, 2, 2);
        sizes(x, 2, 1, 2);
        x.setDelta(2, 3, 100);
        sizes(x, 0, 3, 102);
        sizes(x, 3, 0, NONE);
    }

    private static void sevenDeltas() {
        int[] order = {3, 7, 0, 5, 1, 6, 2, 4};
        Told x = new Told();
        for (int i = 0; i < 7; i++) {
            x.setDelta(order[i], order[i + 1], 100000);
        }
        for (int from = 0; from < 8; from++) {
            for (int to = 0; to < 8; to++) {
                sizes(x, order[from], order[to], from <= to ? (to - from) * 100000 : NONE);
            }
        }
    }

    private static void imageAndSixDeltas() {
        int[] order = {3, 7, 0, 5, 1, 6, 2};
        Told x = new Told();
        x.setImage(3, 100000);
        for (int i = 0; i < 6; i++) {
            x.setDelta(order[i], order[i + 1], 100000);
        }
        sizes(x, 4, 2, 700000);
        sizes(x, 4, 6, 600000);
        sizes(x, 4, 3, 100000);
        sizes(x, 2, 3, 100000);
        sizes(x, 2, 6, 600000);
    }

    private static void imageAndSevenDeltas() {
        Told x = new Told();
        x.setImage(0, 1);
        for (int v = 0; v < 7; v++) {
            x.setDelta(v, v + 1, 1);
        }
        // A way from the image of 0 that meets all others meets the first version too, from which less is to load.
        sizes(x, 4, 7, 3);
        sizes(x, 4, 3, 4);
        sizes(x, 7, 6, 7);
        sizes(x, 0, 7, 7);
    }

    private static void waysWithoutKinds() {
        Told x = new Told();
        x.setDelta(0, 1, 30);
        x.setDelta(1, 2, 30);
        x.addDevice(0, 0);
        x.allow(0, 0);
        x.allow(1, 0);
        sizes(x, 0, 2, 60);
        Check.beginForAll(x, 2, 1, 0);
        Check.same("eligible(0)", 1, x.eligible(0));
        Check.same("pass(1)", 1, x.pass(1));
        Check.same("report(0, true)", 2, x.report(0, true));
    }

    // ---- devices

    private static void noDevices() {
        Told x = Check.fleet(0);
        Check.same("devices()", 0, x.devices());
        Check.beginForAll(x, 1, 1, 0);
        Check.same("eligible(0)", 0, x.eligible(0));
        Check.same("pass(1)", 0, x.pass(1));
        Check.same("pass(100)", 0, x.pass(100));
        Check.same("reports(0)", 0, x.reports(0));
        Check.same("ring(0)", 0, x.ring(0));
    }

    private static void noCampaigns() {
        Told x = Check.fleet(10);
        Check.same("pass(1)", 0, x.pass(1));
        Check.same("pass(100)", 0, x.pass(100));
        for (int d = 0; d < 10; d++) {
            asked(x, d, Ringroll.IDLE, NONE, 0, 100);
            Check.same("version(" + d + ")", 0, x.version(d));
        }
    }

    private static void tenthDevice() {
        Told x = Check.fleet(9);
        Check.same("addDevice(3, 7)", 9, x.addDevice(3, 7));
        x.setImage(6, 150);
        x.begin(6, 8, 128, NONE);
        x.setRules(0, 100, 100, 1, 0);
        Check.same("eligible(0)", 1 << 9, x.eligible(0));
        Check.same("charge(9, 50)", 100, x.charge(9, 50));
        x.setWindow(9, 1, 2);
        x.pass(1);
        asked(x, 9, Ringroll.LOADS, 0, 150, 50);
        x.pass(1);
        asked(x, 9, Ringroll.LOADS, 0, 50, 49);
        Check.same("pass(1)", 1, x.pass(1));
        asked(x, 9, Ringroll.TRIAL, 0, 0, 48);
        Check.same("report(9, true)", 6, x.report(9, true));
        Check.same("version(9)", 6, x.version(9));
        asked(x, 9, Ringroll.IDLE, NONE, 0, 48);
        asked(x, 8, Ringroll.IDLE, NONE, 0, 100);
    }

    private static void tenDevices() {
        Told x = Check.fleet(10);
        Check.beginForAll(x, 1, 10, 1000);
        Check.same("eligible(0)", 1023, x.eligible(0));
        Check.same("pass(1)", 10, x.pass(1));
        for (int d = 0; d < 10; d++) {
            Check.same("reports(0)", d, x.reports(0));
            x.report(d, d != 9);
        }
        Check.same("ring(0)", 1, x.ring(0));
        Check.same("eligible(0)", 0, x.eligible(0));
    }

    private static void lateDevice() {
        Told x = Check.fleet(1);
        Check.beginForAll(x, 1, 10, 1000);
        x.pass(30);
        Check.same("addDevice(0, 0)", 1, x.addDevice(0, 0));
        asked(x, 1, Ringroll.IDLE, NONE, 0, 100);
        x.setWindow(1, 6, 6);
        Check.same("pass(1) at the hour 6", 1, x.pass(1));
        asked(x, 1, Ringroll.TRIAL, 0, 0, 99);
    }

    private static void toGoOfNoLoad() {
        Told x = Check.fleet(1);
        Check.same("toGo(0), idle", 0, x.toGo(0));
        Check.beginForAll(x, 1, 10, 1000);
        Check.same("toGo(0), idle yet", 0, x.toGo(0));
        x.setImage(1, 30);
        x.pass(1);
        Check.same("toGo(0), on trial", 0, x.toGo(0));
        x.report(0, false);
        Check.same("toGo(0), idle again", 0, x.toGo(0));
    }

    private static void numbersStay() {
        Told x = new Told();
        x.allow(5, 0);
        Check.refuses("addDevice(4, 0)", Check.INDEX, x, () -> x.addDevice(4, 0));
        Check.refuses("addDevice(0, 8)", Check.INDEX, x, () -> x.addDevice(0, 8));
        Check.refuses("addDevice(0, 5)", Check.STATE, x, () -> x.addDevice(0, 5));
        Check.same("addDevice(0, 0)", 0, x.addDevice(0, 0));
        Check.refuses("addDevice(0, 5)", Check.STATE, x, () -> x.addDevice(0, 5));
        Check.same("addDevice(0, 0)", 1, x.addDevice(0, 0));
        Check.same("devices()", 2, x.devices());
    }

    private static void deviceAtFirst() {
        Told x = Check.fleet(1);
        x.setImage(1, 5000);
        asked(x, 0, Ringroll.IDLE, NONE, 0, 100);
        Check.beginForAll(x, 1, 10, 1000);
        for (int hour = 0; hour < 25; hour++) {
            x.pass(1);
            Check.same("battery(0) after the hour " + hour, 99 - hour, x.battery(0));
        }
    }

    // ---- windows

    /** Lets a device load for 24 hours; the bit h of what is answered is 1 if it has loaded in the hour h. */
    private static int hoursOfLoading(int first, int last) {
        Told x = Check.fleet(1);
        x.setImage(1, 100000);
        x.setWindow(0, first, last);
        Check.beginForAll(x, 1, 10, 1000);
        int loaded = 0;
        for (int hour = 0; hour < 24; hour++) {
            int before = x.battery(0);
            x.pass(1);
            loaded |= before - x.battery(0) << hour;
        }
        return loaded;
    }

    private static void bothHours() {
        Check.same("9 to 11", 1 << 9 | 1 << 10 | 1 << 11, hoursOfLoading(9, 11));
        Check.same("9 to 10", 1 << 9 | 1 << 10, hoursOfLoading(9, 10));
    }

    private static void oneHour() {
        for (int hour = 0; hour < 24; hour++) {
            Check.same("" + hour, 1 << hour, hoursOfLoading(hour, hour));
        }
    }

    private static void overMidnight() {
        Check.same("22 to 2", 1 << 22 | 1 << 23 | 1 | 1 << 1 | 1 << 2, hoursOfLoading(22, 2));
        Check.same("12 to 10", (1 << 24) - 1 - (1 << 11), hoursOfLoading(12, 10));
    }

    private static void twoHoursAtMidnight() {
        Check.same("23 to 0", 1 << 23 | 1, hoursOfLoading(23, 0));
    }

    private static void wholeDayTurned() {
        for (int first = 1; first < 24; first++) {
            Check.same(first + " to " + (first - 1), (1 << 24) - 1, hoursOfLoading(first, first - 1));
        }
    }

    private static void wholeDay() {
        Check.same("0 to 23", (1 << 24) - 1, hoursOfLoading(0, 23));
        Check.same("0 to 22", (1 << 23) - 1, hoursOfLoading(0, 22));
        Check.same("1 to 23", (1 << 24) - 2, hoursOfLoading(1, 23));
    }

    private static void firstAndLastHour() {
        Check.same("0 to 0", 1, hoursOfLoading(0, 0));
        Check.same("23 to 23", 1 << 23, hoursOfLoading(23, 23));
    }

    private static void windowWhileLoading() {
        Told x = Check.fleet(1);
        x.setImage(1, 1000);
        Check.beginForAll(x, 1, 10, 1000);
        x.pass(3);
        asked(x, 0, Ringroll.LOADS, 0, 700, 97);
        x.setWindow(0, 5, 6);
        x.pass(2);
        asked(x, 0, Ringroll.LOADS, 0, 700, 97);
        x.pass(4);
        asked(x, 0, Ringroll.LOADS, 0, 500, 95);
        x.setWindow(0, 9, 9);
        x.pass(1);
        asked(x, 0, Ringroll.LOADS, 0, 400, 94);
    }

    private static void takenOutside() {
        Told x = Check.fleet(1);
        x.setWindow(0, 3, 3);
        Check.beginForAll(x, 1, 10, 1000);
        Check.same("pass(3)", 0, x.pass(3));
        asked(x, 0, Ringroll.LOADS, 0, 100, 100);
        Check.same("pass(1)", 1, x.pass(1));
        asked(x, 0, Ringroll.TRIAL, 0, 0, 99);
    }

    // ---- batteries

    private static Told loading(int battery, int size) {
        Told x = Check.fleet(1);
        x.setImage(1, size);
        x.charge(0, battery);
        Check.beginForAll(x, 1, 10, 1000);
        return x;
    }

    private static void batteryOfTwenty() {
        Told x = loading(20, 300);
        x.pass(1);
        asked(x, 0, Ringroll.LOADS, 0, 200, 19);
        x.pass(100);
        asked(x, 0, Ringroll.LOADS, 0, 200, 19);
    }

    private static void batteryOfNineteen() {
        Told x = loading(19, 100);
        Check.same("pass(100)", 0, x.pass(100));
        asked(x, 0, Ringroll.LOADS, 0, 100, 19);
    }

    private static void emptyBattery() {
        Told x = loading(0, 100);
        Check.same("pass(100)", 0, x.pass(100));
        asked(x, 0, Ringroll.LOADS, 0, 100, 0);
    }

    private static void chargedWhileLoading() {
        Told x = loading(5, 250);
        x.pass(1);
        asked(x, 0, Ringroll.LOADS, 0, 250, 5);
        x.charge(0, 19);
        x.pass(1);
        asked(x, 0, Ringroll.LOADS, 0, 250, 19);
        x.charge(0, 20);
        x.pass(5);
        asked(x, 0, Ringroll.LOADS, 0, 150, 19);
        x.charge(0, 21);
        Check.same("pass(2)", 1, x.pass(2));
        asked(x, 0, Ringroll.TRIAL, 0, 0, 19);
    }

    private static void unusedOutside() {
        Told x = loading(20, 100);
        x.setWindow(0, 2, 2);
        x.pass(2);
        asked(x, 0, Ringroll.LOADS, 0, 100, 20);
        Check.same("pass(1)", 1, x.pass(1));
        asked(x, 0, Ringroll.TRIAL, 0, 0, 19);
    }

    // ---- loads

    private static void loaded(int size, int hours) {
        Told x = loading(100, size);
        for (int hour = 1; hour < hours; hour++) {
            Check.same("pass(1)", 0, x.pass(1));
            asked(x, 0, Ringroll.LOADS, 0, size - 100 * hour, 100 - hour);
        }
        Check.same("pass(1), the last", 1, x.pass(1));
        asked(x, 0, Ringroll.TRIAL, 0, 0, 100 - hours);
    }

    private static void beyondBattery() {
        Told x = loading(100, 8101);
        Check.same("pass(100)", 0, x.pass(100));
        asked(x, 0, Ringroll.LOADS, 0, 1, 19);
        x.charge(0, 20);
        Check.same("pass(1)", 1, x.pass(1));
        asked(x, 0, Ringroll.TRIAL, 0, 0, 19);
    }

    private static void largestDownload() {
        Told x = new Told();
        for (int v = 0; v < 7; v++) {
            x.setDelta(v, v + 1, 100000);
        }
        x.addDevice(0, 0);
        Check.beginForAll(x, 7, 1, 0);
        for (int day = 0; day < 100; day++) {
            x.charge(0, 99);
            Check.same("pass(70)", day < 99 ? 0 : 1, x.pass(70));
            Check.same("toGo(0)", 700000 - 7000 * (day + 1), x.toGo(0));
        }
        Check.same("report(0, true)", 7, x.report(0, true));
    }

    private static void sizeWhileLoading() {
        Told x = loading(100, 300);
        x.pass(1);
        x.setImage(1, 900);
        asked(x, 0, Ringroll.LOADS, 0, 200, 99);
        x.setImage(1, NONE);
        x.pass(1);
        asked(x, 0, Ringroll.LOADS, 0, 100, 98);
        Check.same("pass(1)", 1, x.pass(1));
    }

    private static void kindWhileLoading() {
        Told x = loading(100, 200);
        x.pass(1);
        x.allow(1, 14);
        asked(x, 0, Ringroll.LOADS, 0, 100, 99);
        Check.same("pass(1)", 1, x.pass(1));
        Check.same("report(0, true)", 1, x.report(0, true));
        Check.same("version(0)", 1, x.version(0));
    }

    // ---- hours

    private static void clockAtFirst() {
        Told x = loading(100, 100);
        x.setWindow(0, 0, 0);
        Check.same("pass(1)", 1, x.pass(1));
    }

    private static void behindTwentyThree() {
        Told x = loading(100, 5000);
        x.setWindow(0, 23, 23);
        x.pass(23);
        Check.same("battery(0) before the hour 23", 100, x.battery(0));
        x.pass(1);
        Check.same("battery(0) after the hour 23", 99, x.battery(0));
        x.setWindow(0, 0, 0);
        x.pass(1);
        Check.same("battery(0) after the hour 0 of the next day", 98, x.battery(0));
        x.pass(23);
        Check.same("battery(0) before the hour 0 of the third day", 98, x.battery(0));
        x.pass(1);
        Check.same("battery(0) after the hour 0 of the third day", 97, x.battery(0));
    }

    private static void hundredHours() {
        Told x = loading(100, 5000);
        x.setWindow(0, 3, 4);
        x.pass(100);
        Check.same("battery(0), the hour 3 five times and the hour 4 four times", 91, x.battery(0));
        x.pass(1);
        Check.same("battery(0) after the hour 4", 90, x.battery(0));
        x.pass(1);
        Check.same("battery(0) after the hour 5", 90, x.battery(0));
    }

    private static void hundredSingleHours() {
        Told x = loading(100, 6000);
        Told y = loading(100, 6000);
        x.setWindow(0, 20, 13);
        y.setWindow(0, 20, 13);
        int trials = 0;
        for (int hour = 0; hour < 100; hour++) {
            trials += x.pass(1);
        }
        Check.same("trials", trials, y.pass(100));
        asked(y, 0, Ringroll.TRIAL, 0, 0, 40);
        asked(x, 0, Ringroll.TRIAL, 0, 0, 40);
    }

    private static void clockWithoutDevices() {
        Told x = Check.fleet(0);
        Check.beginForAll(x, 1, 10, 1000);
        x.pass(7);
        x.addDevice(0, 0);
        x.setWindow(0, 8, 8);
        Check.same("pass(1) at the hour 7", 0, x.pass(1));
        Check.same("pass(1) at the hour 8", 1, x.pass(1));
    }

    private static void lastCall() {
        Told x = new Told();
        for (int from = 0; from < 8; from++) {
            x.setImage(from, 1000 + from);
            for (int to = 0; to < 8; to++) {
                if (from != to) {
                    x.setDelta(from, to, 500 + from + to);
                }
            }
        }
        for (int d = 0; d < 10; d++) {
            x.addDevice(d % 4, 0);
        }
        while (x.calls() < Told.MOST_CALLS - 2) {
            Check.same("sizeByWays(1, 6)", 507, x.sizeByWays(1, 6));
            Check.same("pass(100)", 0, x.pass(100));
        }
        Check.same("sizeByWays(7, 6), the call 511", 513, x.sizeByWays(7, 6));
        Check.same("pass(100), the call 512", 0, x.pass(100));
    }
}
