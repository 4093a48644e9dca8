/** Promises 17 to 23: campaigns, their rules and rings, and who may take them. */
final class CampaignsTest {
    private static final int NONE = Ringroll.NONE;
    private static final int[] NO_SUCH = {-1, 1, 6, Integer.MIN_VALUE, Integer.MAX_VALUE};

    private CampaignsTest() {
    }

    static void run() {
        Check.test("promise 17: begin numbers from 0 up to 6 campaigns", CampaignsTest::beginNumbers);
        Check.test("promise 17: the rules at first", CampaignsTest::rulesAtFirst);
        Check.test("promise 17: begin stops what it replaces", CampaignsTest::beginReplaces);
        Check.test("promise 17: devices of a replaced campaign go on", CampaignsTest::replacedGoesOn);
        Check.test("promise 18: shares", CampaignsTest::shares);
        Check.test("promise 18: needs", CampaignsTest::needs);
        Check.test("promise 18: lower needs are judged at the next report", CampaignsTest::lowerNeeds);
        Check.test("promise 18: thousandths", CampaignsTest::thousandths);
        Check.test("promise 18: setRules refuses", CampaignsTest::rulesRefuse);
        Check.test("promise 19: toggle stops, and begins the ring anew", CampaignsTest::toggles);
        Check.test("promise 19: toggle lets devices go on", CampaignsTest::toggledGoesOn);
        Check.test("promise 19: toggle forgets failures, but not who has reported", CampaignsTest::toggleForgets);
        Check.test("promise 20: isActive", CampaignsTest::active);
        Check.test("promises 21 and 22: rings widen, and the last one stays", CampaignsTest::ringsWiden);
        Check.test("promises 21 and 22: a report counts in the ring of now", CampaignsTest::ringOfNow);
        Check.test("promises 21 and 22: a stopped campaign counts reports, but is not judged", CampaignsTest::stoppedCounts);
        Check.test("promise 23: eligible asks kind, version, target and way", CampaignsTest::eligibleAsks);
        Check.test("promise 23: eligible are idle devices alone", CampaignsTest::eligibleIdle);
        Check.test("promise 23: the draws of all devices in all campaigns", CampaignsTest::draws);
    }

    private static void beginNumbers() {
        Told x = new Told();
        for (int c = 0; c < 6; c++) {
            Check.same("begin", c, x.begin(c, c, c, NONE));
            Check.yes("isActive(" + c + ")", x.isActive(c));
            Check.same("ring(" + c + ")", 0, x.ring(c));
            Check.same("reports(" + c + ")", 0, x.reports(c));
        }
        Check.same("campaigns", 6, Check.campaigns(x));
    }

    private static void rulesAtFirst() {
        Told x = Check.fleet(10);
        for (int c = 0; c < 6; c++) {
            x.begin(1, 15, c == 5 ? 255 : 0, NONE);
        }
        // No campaign has more than two draws below 10: three reports never come together without setRules.
        Check.same("eligible(5), the share 10", belowShare(5, 10), x.eligible(5));
        Check.same("eligible(5), the devices", 1 << 1 | 1 << 9, x.eligible(5));
        Check.same("pass(1)", 2, x.pass(1));
        x.report(1, true);
        x.report(9, false);
        Check.same("ring(5) after two reports", 0, x.ring(5));
        Check.same("reports(5) after two reports", 2, x.reports(5));
        Check.yes("isActive(5) after two reports, one of them bad", x.isActive(5));
        Told y = Check.fleet(10);
        y.begin(1, 15, 255, NONE);
        Check.same("eligible(0), the draw 9 but not the draw 13", 1 << 8, y.eligible(0));
    }

    private static void beginReplaces() {
        Told x = Check.fleet(3);
        x.begin(1, 15, 255, NONE);
        x.begin(2, 15, 255, NONE);
        Check.same("begin", 2, x.begin(3, 15, 255, 1));
        Check.yes("isActive(0)", x.isActive(0));
        Check.no("isActive(1)", x.isActive(1));
        Check.yes("isActive(2)", x.isActive(2));
        Check.same("begin", 3, x.begin(3, 15, 255, 1));
        Check.no("isActive(1), replaced twice", x.isActive(1));
        Check.yes("toggle(1)", x.toggle(1));
        Check.yes("isActive(3)", x.isActive(3));
    }

    private static void replacedGoesOn() {
        Told x = Check.fleet(2);
        x.setImage(1, 200);
        x.setWindow(1, 1, 23);
        Check.beginForAll(x, 1, 10, 0);
        x.pass(2);
        Check.same("state(0)", Ringroll.TRIAL, x.state(0));
        Check.same("toGo(1)", 100, x.toGo(1));
        x.begin(2, 15, 255, 0);
        Check.same("campaignOf(0)", 0, x.campaignOf(0));
        Check.same("campaignOf(1)", 0, x.campaignOf(1));
        Check.same("report(0, true)", 1, x.report(0, true));
        Check.same("pass(1)", 1, x.pass(1));
        Check.same("report(1, true)", 1, x.report(1, true));
        Check.same("reports(0)", 2, x.reports(0));
        Check.same("reports(1)", 0, x.reports(1));
    }

    private static void shares() {
        Told x = Check.fleet(10);
        x.begin(1, 15, 255, NONE);
        for (int share = 0; share <= 100; share++) {
            x.setRules(0, share, 100, 1, 0);
            Check.same("eligible(0) of the share " + share, belowShare(0, share), x.eligible(0));
        }
        x.setRules(0, 10, 100, 1, 0);
        x.pass(1);
        x.report(8, true);
        for (int share = 0; share <= 100; share++) {
            x.setRules(0, 0, share, 1, 0);
            Check.same("eligible(0) of the share " + share + ", ring 1", belowShare(0, share) & ~(1 << 8),
                    x.eligible(0));
        }
        x.setRules(0, 0, 14, 1, 0);
        x.pass(1);
        x.report(0, true);
        x.setRules(0, 0, 0, 1, 0);
        Check.same("ring(0)", 2, x.ring(0));
        Check.same("eligible(0), ring 2", 1023 & ~(1 << 8) & ~1, x.eligible(0));
    }

    private static int belowShare(int campaign, int share) {
        int set = 0;
        for (int d = 0; d < 10; d++) {
            if ((d * 37 + campaign * 11 + 13) % 100 < share) {
                set += 1 << d;
            }
        }
        return set;
    }

    private static void needs() {
        for (int needs = 1; needs <= 10; needs++) {
            Told x = Check.fleet(10);
            Check.beginForAll(x, 1, needs, 0);
            x.pass(1);
            for (int d = 0; d < needs; d++) {
                Check.same("ring(0) before the report " + d, 0, x.ring(0));
                Check.same("reports(0)", d, x.reports(0));
                x.report(d, true);
            }
            Check.same("ring(0) after " + needs, 1, x.ring(0));
            Check.same("reports(0) after " + needs, 0, x.reports(0));
        }
    }

    private static void lowerNeeds() {
        Told x = Check.fleet(10);
        Check.beginForAll(x, 1, 10, 0);
        x.pass(1);
        for (int d = 0; d < 4; d++) {
            x.report(d, true);
        }
        x.setRules(0, 100, 100, 2, 0);
        Check.same("ring(0)", 0, x.ring(0));
        Check.same("reports(0)", 4, x.reports(0));
        x.report(4, true);
        Check.same("ring(0)", 1, x.ring(0));
        Check.same("reports(0)", 0, x.reports(0));
    }

    private static void thousandths() {
        for (int failures = 0; failures <= 10; failures++) {
            judged(failures, failures * 100, true);
            if (failures > 0) {
                judged(failures, failures * 100 - 1, false);
            }
        }
        judged(10, 1000, true);
        judged(0, 0, true);
    }

    /** Lets ten devices report, so many of them badly; then the campaign goes on or is stopped. */
    private static void judged(int failures, int thousandths, boolean goesOn) {
        Told x = Check.fleet(10);
        Check.beginForAll(x, 1, 10, thousandths);
        x.pass(1);
        for (int d = 0; d < 10; d++) {
            Check.yes("isActive(0) before all have reported", x.isActive(0));
            x.report(d, d >= failures);
        }
        String what = " after " + failures + " failures of 10, " + thousandths + " borne";
        Check.same("isActive(0)" + what, goesOn, x.isActive(0));
        Check.same("ring(0)" + what, goesOn ? 1 : 0, x.ring(0));
        Check.same("reports(0)" + what, goesOn ? 0 : 10, x.reports(0));
    }

    private static void rulesRefuse() {
        Told x = Check.fleet(10);
        x.begin(1, 15, 255, NONE);
        x.setRules(0, 20, 60, 2, 500);
        int[][] wrong = {
            {-1, 0, 1, 0}, {101, 101, 1, 0}, {5, 4, 1, 0}, {0, -1, 1, 0}, {0, 101, 1, 0},
            {0, 0, 0, 0}, {0, 0, 11, 0}, {0, 0, 1, -1}, {0, 0, 1, 1001},
            {Integer.MIN_VALUE, 0, 1, 0}, {0, Integer.MAX_VALUE, 1, 0}, {0, 0, Integer.MAX_VALUE, 0},
            {0, 0, 1, Integer.MAX_VALUE}, {0, 0, Integer.MIN_VALUE, 0}, {0, 0, 1, Integer.MIN_VALUE},
        };
        for (int[] r : wrong) {
            String what = "setRules(0, " + r[0] + ", " + r[1] + ", " + r[2] + ", " + r[3] + ")";
            Check.refuses(what, Check.ARGUMENT, x, () -> x.setRules(0, r[0], r[1], r[2], r[3]));
            for (int campaign : NO_SUCH) {
                Check.refuses(what + " of " + campaign, Check.INDEX, x,
                        () -> x.setRules(campaign, r[0], r[1], r[2], r[3]));
            }
        }
        for (int campaign : NO_SUCH) {
            Check.refuses("setRules of " + campaign, Check.INDEX, x, () -> x.setRules(campaign, 0, 0, 1, 0));
        }
        Check.same("eligible(0), the share 20", belowShare(0, 20), x.eligible(0));
        x.pass(1);
        x.report(0, true);
        Check.same("ring(0), two are needed", 0, x.ring(0));
        x.report(8, false);
        Check.same("ring(0), one of two is borne", 1, x.ring(0));
        Check.same("eligible(0), the share 60", belowShare(0, 60) & ~1 & ~(1 << 8), x.eligible(0));
        x.setRules(0, 0, 0, 1, 0);
        x.setRules(0, 100, 100, 10, 1000);
        x.setRules(0, 5, 5, 10, 1000);
    }

    private static void toggles() {
        Told x = Check.fleet(10);
        Check.beginForAll(x, 1, 3, 0);
        x.pass(1);
        for (int d = 0; d < 5; d++) {
            x.report(d, true);
        }
        Check.no("toggle(0)", x.toggle(0));
        Check.no("isActive(0)", x.isActive(0));
        Check.same("ring(0), stopped", 1, x.ring(0));
        Check.same("reports(0), stopped", 2, x.reports(0));
        Check.yes("toggle(0)", x.toggle(0));
        Check.yes("isActive(0)", x.isActive(0));
        Check.same("ring(0), begun anew", 1, x.ring(0));
        Check.same("reports(0), begun anew", 0, x.reports(0));
    }

    private static void toggledGoesOn() {
        Told x = Check.fleet(3);
        x.setImage(1, 200);
        x.setWindow(1, 1, 23);
        Check.beginForAll(x, 1, 10, 0);
        x.pass(2);
        x.toggle(0);
        Check.same("eligible(0)", 0, x.eligible(0));
        Check.same("addDevice", 3, x.addDevice(0, 0));
        Check.same("pass(1)", 1, x.pass(1));
        Check.same("state(3)", Ringroll.IDLE, x.state(3));
        Check.same("report(0, true)", 1, x.report(0, true));
        Check.same("report(1, true)", 1, x.report(1, true));
        Check.same("reports(0)", 2, x.reports(0));
        x.toggle(0);
        Check.same("reports(0)", 0, x.reports(0));
        Check.same("campaignOf(2)", 0, x.campaignOf(2));
        Check.same("eligible(0)", 8, x.eligible(0));
    }

    private static void toggleForgets() {
        Told x = Check.fleet(4);
        Check.beginForAll(x, 1, 3, 400);
        x.pass(1);
        x.report(0, false);
        x.report(1, false);
        x.toggle(0);
        x.toggle(0);
        Check.same("eligible(0)", 0, x.eligible(0));
        x.setRules(0, 100, 100, 1, 0);
        x.report(2, true);
        Check.same("ring(0), without the failures before", 1, x.ring(0));
        x.report(3, false);
        Check.no("isActive(0)", x.isActive(0));
        x.toggle(0);
        Check.same("eligible(0), of those that have reported", 0, x.eligible(0));
    }

    private static void active() {
        Told x = Check.fleet(2);
        x.begin(1, 15, 255, NONE);
        x.begin(2, 15, 255, NONE);
        x.toggle(1);
        Check.yes("isActive(0)", x.isActive(0));
        Check.no("isActive(1)", x.isActive(1));
        x.setRules(0, 100, 100, 1, 999);
        x.pass(1);
        x.report(0, false);
        Check.no("isActive(0), stopped by a failure", x.isActive(0));
    }

    private static void ringsWiden() {
        Told x = Check.fleet(10);
        Check.beginForAll(x, 1, 2, 0);
        x.pass(1);
        int[] rings = {0, 1, 1, 2, 2, 2, 2, 2, 2, 2};
        int[] reports = {1, 0, 1, 0, 1, 2, 3, 4, 5, 6};
        for (int d = 0; d < 10; d++) {
            x.report(d, true);
            Check.same("ring(0) after " + d, rings[d], x.ring(0));
            Check.same("reports(0) after " + d, reports[d], x.reports(0));
            Check.yes("isActive(0) after " + d, x.isActive(0));
        }
        Told y = Check.fleet(10);
        Check.beginForAll(y, 1, 2, 400);
        y.pass(1);
        for (int d = 0; d < 6; d++) {
            y.report(d, true);
        }
        y.report(6, false);
        Check.yes("isActive(0), one of three in the last ring", y.isActive(0));
        y.report(7, false);
        Check.no("isActive(0), two of four in the last ring", y.isActive(0));
        Check.same("ring(0)", 2, y.ring(0));
        Check.same("reports(0)", 4, y.reports(0));
    }

    private static void ringOfNow() {
        Told x = Check.fleet(3);
        Check.beginForAll(x, 1, 1, 0);
        x.pass(1);
        x.report(0, true);
        Check.same("ring(0)", 1, x.ring(0));
        // The device 1 took the campaign in the ring 0, and is counted in the ring 1.
        x.setRules(0, 100, 100, 2, 500);
        x.report(1, false);
        Check.same("reports(0)", 1, x.reports(0));
        x.report(2, true);
        Check.same("ring(0)", 2, x.ring(0));
        Check.same("reports(0)", 0, x.reports(0));
    }

    private static void stoppedCounts() {
        Told x = Check.fleet(4);
        Check.beginForAll(x, 1, 2, 1000);
        x.pass(1);
        x.report(0, true);
        x.toggle(0);
        for (int d = 1; d < 4; d++) {
            x.report(d, d == 1);
            Check.same("reports(0)", d + 1, x.reports(0));
            Check.same("ring(0)", 0, x.ring(0));
            Check.no("isActive(0)", x.isActive(0));
        }
        x.toggle(0);
        Check.same("reports(0)", 0, x.reports(0));
        Check.same("ring(0)", 0, x.ring(0));
    }

    private static void eligibleAsks() {
        Told x = new Told();
        x.setDelta(0, 2, 5);
        x.setDelta(1, 2, 5);
        x.addDevice(0, 0);
        x.addDevice(1, 1);
        x.addDevice(2, 2);
        x.addDevice(3, 3);
        x.addDevice(1, 0);
        Check.beginForAll(x, 2, 10, 0);
        Check.same("eligible(0), with a way", 1 | 2 | 16, x.eligible(0));
        x.setImage(2, 9);
        Check.same("eligible(0), all but that of the target", 1 | 2 | 8 | 16, x.eligible(0));
        x.begin(2, 2, 255, NONE);
        x.setRules(1, 100, 100, 10, 0);
        Check.same("eligible(1), the kind 1", 2 | 16, x.eligible(1));
        x.begin(2, 15, 1, NONE);
        x.setRules(2, 100, 100, 10, 0);
        Check.same("eligible(2), the version 0", 1 | 16, x.eligible(2));
        x.begin(2, 2, 2, NONE);
        x.setRules(3, 100, 100, 10, 0);
        Check.same("eligible(3), the kind 1 and the version 1", 2, x.eligible(3));
        x.begin(2, 0, 255, NONE);
        x.begin(2, 15, 0, NONE);
        x.setRules(4, 100, 100, 10, 0);
        x.setRules(5, 100, 100, 10, 0);
        Check.same("eligible(4), no kind", 0, x.eligible(4));
        Check.same("eligible(5), no version", 0, x.eligible(5));
        x.toggle(0);
        Check.same("eligible(0), stopped", 0, x.eligible(0));
        x.toggle(0);
        Check.same("eligible(0)", 1 | 2 | 8 | 16, x.eligible(0));
    }

    private static void eligibleIdle() {
        Told x = Check.fleet(3);
        x.setImage(1, 200);
        Check.beginForAll(x, 1, 10, 0);
        Check.beginForAll(x, 2, 10, 0);
        x.setWindow(2, 5, 5);
        Check.same("eligible(1)", 7, x.eligible(1));
        x.pass(2);
        Check.same("eligible(0)", 0, x.eligible(0));
        Check.same("eligible(1)", 0, x.eligible(1));
        x.report(1, false);
        Check.same("eligible(0), for it has reported there", 0, x.eligible(0));
        Check.same("eligible(1), for it has not reported there", 2, x.eligible(1));
        x.report(0, true);
        Check.same("eligible(1)", 3, x.eligible(1));
    }

    private static void draws() {
        for (int c = 0; c < 6; c++) {
            Told x = Check.fleet(10);
            for (int begun = 0; begun <= c; begun++) {
                x.begin(1, 15, 255, NONE);
            }
            for (int share = 0; share <= 100; share++) {
                x.setRules(c, share, share, 1, 0);
                Check.same("eligible(" + c + ") of the share " + share, belowShare(c, share), x.eligible(c));
            }
        }
    }
}
