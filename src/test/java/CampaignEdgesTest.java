/** Boundary cases of campaigns, their rules, rings and reports, a test each; refused calls stand in RefusalsTest. */
final class CampaignEdgesTest {
    private static final int NONE = Ringroll.NONE;
    private static final int ALL = 1023;

    private CampaignEdgesTest() {
    }

    static void run() {
        lists();
        replaced();
        shares();
        mayTake();
        lowest();
        rings();
        judging();
        toggles();
    }

    private static void lists() {
        Check.test("edge: the sixth campaign", CampaignEdgesTest::sixthCampaign);
        Check.test("edge: a refused begin takes no number", CampaignEdgesTest::numbersStay);
        Check.test("edge: a campaign is at first active, in its ring 0, without reports", CampaignEdgesTest::atFirst);
        Check.test("edge: a new campaign has the share 10", CampaignEdgesTest::shareAtFirst);
        Check.test("edge: a new campaign needs more than two reports", CampaignEdgesTest::needsAtFirst);
    }

    private static void replaced() {
        Check.test("edge: NONE replaces no campaign", CampaignEdgesTest::replacesNone);
        Check.test("edge: the campaign 0 is replaced", CampaignEdgesTest::replacesFirst);
        Check.test("edge: the fifth campaign is replaced by the sixth", CampaignEdgesTest::replacesFifth);
        Check.test("edge: a stopped campaign is replaced, and stays stopped", CampaignEdgesTest::replacesStopped);
        Check.test("edge: a replaced campaign keeps its ring and reports", CampaignEdgesTest::replacedKeepsRing);
        Check.test("edge: a replaced campaign is made active again", CampaignEdgesTest::replacedAgain);
        Check.test("edge: a device that loads a replaced campaign goes on", CampaignEdgesTest::replacedWhileLoading);
        Check.test("edge: a device that has a replaced campaign on trial goes on", CampaignEdgesTest::replacedOnTrial);
        Check.test("edge: a device that is idle does not take a replaced campaign", CampaignEdgesTest::replacedIdle);
    }

    private static void shares() {
        Check.test("edge: a draw equal to the share is not in it", CampaignEdgesTest::drawEqualToShare);
        Check.test("edge: a share of 0 has no device", CampaignEdgesTest::shareOfNone);
        Check.test("edge: a share of 100 has all devices", CampaignEdgesTest::shareOfAll);
        Check.test("edge: equal shares of the rings 0 and 1", CampaignEdgesTest::equalShares);
        Check.test("edge: the share of the ring 2 is 100, whatever the rules", CampaignEdgesTest::lastShare);
        Check.test("edge: the draw is a remainder by 100", CampaignEdgesTest::drawWraps);
        Check.test("edge: a device that loads goes on if the share gets less", CampaignEdgesTest::lessShare);
    }

    private static void mayTake() {
        Check.test("edge: sets of no kind and of all kinds", CampaignEdgesTest::setsOfKinds);
        Check.test("edge: sets of no version and of all versions", CampaignEdgesTest::setsOfVersions);
        Check.test("edge: a set with the version of the target", CampaignEdgesTest::targetInSet);
        Check.test("edge: the target may run on the kind, or may not", CampaignEdgesTest::targetMayRun);
        Check.test("edge: there is a way, or none", CampaignEdgesTest::wayOrNone);
        Check.test("edge: a device has failed in it", CampaignEdgesTest::hasFailed);
        Check.test("edge: a device was well in it, and has another version since", CampaignEdgesTest::wasWell);
        Check.test("edge: a device has reported in it before the ring of now", CampaignEdgesTest::reportedBefore);
        Check.test("edge: a device has reported in another campaign", CampaignEdgesTest::reportedElsewhere);
        Check.test("edge: a device has it on trial, without a report yet", CampaignEdgesTest::notIdle);
    }

    private static void lowest() {
        Check.test("edge: of two campaigns the lower one is taken", () -> passedOver("both", (x) -> { }, 0));
        Check.test("edge: a lower campaign that is stopped is passed over",
                () -> passedOver("stopped", x -> x.toggle(0), 1));
        Check.test("edge: a lower campaign that is for other kinds or versions is passed over",
                CampaignEdgesTest::othersPassedOver);
        Check.test("edge: a lower campaign whose target may not run on the kind is passed over",
                () -> passedOver("kind", x -> x.allow(1, 14), 1));
        Check.test("edge: a lower campaign without a way is passed over",
                () -> passedOver("way", x -> x.setImage(1, NONE), 1));
        Check.test("edge: a lower campaign whose share is too small is passed over",
                () -> passedOver("share", x -> x.setRules(0, 13, 100, 1, 0), 1));
        Check.test("edge: a campaign is stopped while an idle device waits for its way",
                CampaignEdgesTest::stoppedMeanwhile);
        Check.test("edge: a report lets the next campaign begin with the next hour", CampaignEdgesTest::nextHour);
    }

    private static void rings() {
        Check.test("edge: one report less than needed", CampaignEdgesTest::oneReportLess);
        Check.test("edge: as many reports as needed, 1 and 10", CampaignEdgesTest::asManyReports);
        Check.test("edge: more reports than needed, after the need got less", CampaignEdgesTest::moreReports);
        Check.test("edge: setRules alone judges nothing", CampaignEdgesTest::rulesJudgeNothing);
        Check.test("edge: the next ring begins without reports", CampaignEdgesTest::nextRingEmpty);
        Check.test("edge: the next ring begins without failures", CampaignEdgesTest::nextRingUnfailed);
        Check.test("edge: the ring 2 stays, and keeps its reports", CampaignEdgesTest::lastRingStays);
        Check.test("edge: the ring 2 is stopped by failures", CampaignEdgesTest::lastRingStops);
        Check.test("edge: a report counts in the ring of now", CampaignEdgesTest::ringOfNow);
    }

    private static void judging() {
        Check.test("edge: no failures, and none are borne", () -> judged(10, 0, 0, true));
        Check.test("edge: one failure, and none are borne", () -> judged(10, 1, 0, false));
        Check.test("edge: failures times 1000 equal to reports times thousandths", () -> judged(5, 1, 200, true));
        Check.test("edge: failures times 1000 more than reports times thousandths, by the least",
                () -> judged(5, 1, 199, false));
        Check.test("edge: failures times 1000 less than reports times thousandths", () -> judged(5, 1, 201, true));
        Check.test("edge: thousandths that no count of reports meets", CampaignEdgesTest::unevenThousandths);
        Check.test("edge: all have failed, and 1000 are borne", () -> judged(10, 10, 1000, true));
        Check.test("edge: all have failed, and 999 are borne", () -> judged(10, 10, 999, false));
        Check.test("edge: one report is needed, and it is a failure", () -> judged(1, 1, 999, false));
        Check.test("edge: failures before the needed reports do not stop", CampaignEdgesTest::failuresBefore);
        Check.test("edge: a campaign that failures have stopped keeps ring and reports", CampaignEdgesTest::stoppedKeeps);
        Check.test("edge: a stopped campaign counts reports and is not judged", CampaignEdgesTest::stoppedNotJudged);
    }

    private static void toggles() {
        Check.test("edge: stopping leaves reports and ring", CampaignEdgesTest::stoppingLeaves);
        Check.test("edge: the ring 0 is begun anew", () -> begunAnew(0));
        Check.test("edge: the ring 1 is begun anew", () -> begunAnew(1));
        Check.test("edge: the ring 2 is begun anew", () -> begunAnew(2));
        Check.test("edge: a ring that is begun anew has no failures", CampaignEdgesTest::begunWithoutFailures);
        Check.test("edge: devices that load go on, stopped or begun anew", CampaignEdgesTest::loadsGoOn);
        Check.test("edge: devices on trial go on, and count in the ring begun anew", CampaignEdgesTest::trialsGoOn);
        Check.test("edge: who has reported stays so in a ring begun anew", CampaignEdgesTest::reportersStay);
        Check.test("edge: toggle of one campaign leaves the others", CampaignEdgesTest::othersStay);
        Check.test("edge: the rules stay over stopping and beginning anew", CampaignEdgesTest::rulesStay);
    }

    private static void asked(Told x, int campaign, boolean isActive, int ring, int reports) {
        Check.same("isActive(" + campaign + ")", isActive, x.isActive(campaign));
        Check.same("ring(" + campaign + ")", ring, x.ring(campaign));
        Check.same("reports(" + campaign + ")", reports, x.reports(campaign));
    }

    /** Ten devices that have the campaign 0 on trial. */
    private static Told onTrial(int needs, int thousandths) {
        Told x = Check.fleet(10);
        Check.beginForAll(x, 1, needs, thousandths);
        Check.same("pass(1)", 10, x.pass(1));
        return x;
    }

    /** Ten devices that have the campaign 0 on trial; as many of them report well as it takes to come to the ring. */
    private static Told inRing(int ring) {
        Told x = onTrial(1, 0);
        for (int d = 0; d < ring; d++) {
            x.report(d, true);
        }
        asked(x, 0, true, ring, 0);
        return x;
    }

    // ---- lists

    private static void sixthCampaign() {
        Told x = Check.fleet(10);
        for (int c = 0; c < 5; c++) {
            x.begin(c + 1, 0, 0, NONE);
        }
        Check.same("begin", 5, Check.beginForAll(x, 7, 1, 0));
        Check.same("eligible(5)", ALL, x.eligible(5));
        Check.same("pass(1)", 10, x.pass(1));
        Check.same("campaignOf(9)", 5, x.campaignOf(9));
        Check.same("report(9, true)", 7, x.report(9, true));
        asked(x, 5, true, 1, 0);
        Check.no("toggle(5)", x.toggle(5));
        asked(x, 4, true, 0, 0);
    }

    private static void numbersStay() {
        Told x = Check.fleet(1);
        Check.refuses("begin(8, 15, 255, NONE)", Check.INDEX, x, () -> x.begin(8, 15, 255, NONE));
        Check.refuses("begin(1, 16, 255, NONE)", Check.ARGUMENT, x, () -> x.begin(1, 16, 255, NONE));
        Check.same("begin", 0, x.begin(1, 15, 255, NONE));
        Check.refuses("begin(1, 15, 256, 0)", Check.ARGUMENT, x, () -> x.begin(1, 15, 256, 0));
        Check.yes("isActive(0)", x.isActive(0));
        Check.same("begin", 1, x.begin(1, 15, 255, NONE));
    }

    private static void atFirst() {
        Told x = Check.fleet(0);
        for (int c = 0; c < 6; c++) {
            x.begin(c, 15, 255, c - 1);
            asked(x, c, true, 0, 0);
        }
    }

    /** Draws lie on both sides of 10, but none is 10 itself: a share of 11 could not be told from 10. */
    private static void shareAtFirst() {
        int[] due = {1 << 8, 1 << 5, 1 << 2, 1 << 7, 1 << 4, 1 << 1 | 1 << 9};
        Told x = Check.fleet(10);
        for (int c = 0; c < 6; c++) {
            x.begin(1, 15, 255, NONE);
            Check.same("eligible(" + c + ")", due[c], x.eligible(c));
        }
    }

    private static void needsAtFirst() {
        Told x = Check.fleet(10);
        for (int c = 0; c < 5; c++) {
            x.begin(1, 0, 0, NONE);
        }
        x.begin(1, 15, 255, NONE);
        Check.same("pass(1)", 2, x.pass(1));
        x.report(1, true);
        asked(x, 5, true, 0, 1);
        x.report(9, false);
        asked(x, 5, true, 0, 2);
    }

    // ---- replaced

    private static void replacesNone() {
        Told x = Check.fleet(1);
        for (int c = 0; c < 6; c++) {
            x.begin(1, 15, 255, NONE);
        }
        for (int c = 0; c < 6; c++) {
            Check.yes("isActive(" + c + ")", x.isActive(c));
        }
    }

    private static void replacesFirst() {
        Told x = Check.fleet(1);
        x.begin(1, 15, 255, NONE);
        x.begin(2, 15, 255, NONE);
        Check.same("begin", 2, x.begin(3, 15, 255, 0));
        Check.no("isActive(0)", x.isActive(0));
        Check.yes("isActive(1)", x.isActive(1));
        Check.yes("isActive(2)", x.isActive(2));
    }

    private static void replacesFifth() {
        Told x = Check.fleet(1);
        for (int c = 0; c < 5; c++) {
            x.begin(1, 15, 255, NONE);
        }
        Check.same("begin", 5, x.begin(3, 15, 255, 4));
        for (int c = 0; c < 6; c++) {
            Check.same("isActive(" + c + ")", c != 4, x.isActive(c));
        }
    }

    private static void replacesStopped() {
        Told x = onTrial(3, 0);
        x.report(0, true);
        x.toggle(0);
        Check.same("begin", 1, x.begin(2, 15, 255, 0));
        asked(x, 0, false, 0, 1);
        asked(x, 1, true, 0, 0);
    }

    private static void replacedKeepsRing() {
        Told x = inRing(1);
        x.setRules(0, 100, 100, 5, 0);
        x.report(5, true);
        x.begin(2, 15, 255, 0);
        asked(x, 0, false, 1, 1);
    }

    private static void replacedAgain() {
        Told x = inRing(1);
        x.setRules(0, 100, 100, 5, 0);
        x.report(5, true);
        x.begin(2, 15, 255, 0);
        Check.yes("toggle(0)", x.toggle(0));
        asked(x, 0, true, 1, 0);
        asked(x, 1, true, 0, 0);
    }

    private static void replacedWhileLoading() {
        Told x = Check.fleet(1);
        x.setImage(1, 250);
        Check.beginForAll(x, 1, 1, 0);
        x.pass(1);
        Check.beginForAll(x, 2, 1, 0);
        x.begin(2, 15, 255, 0);
        Check.same("state(0)", Ringroll.LOADS, x.state(0));
        Check.same("campaignOf(0)", 0, x.campaignOf(0));
        Check.same("toGo(0)", 150, x.toGo(0));
        Check.same("pass(2)", 1, x.pass(2));
        Check.same("report(0, true)", 1, x.report(0, true));
        asked(x, 0, false, 0, 1);
        asked(x, 1, true, 0, 0);
    }

    private static void replacedOnTrial() {
        Told x = onTrial(1, 0);
        x.begin(2, 15, 255, 0);
        Check.same("state(3)", Ringroll.TRIAL, x.state(3));
        Check.same("campaignOf(3)", 0, x.campaignOf(3));
        Check.same("report(3, true)", 1, x.report(3, true));
        Check.same("report(4, false)", 0, x.report(4, false));
        asked(x, 0, false, 0, 2);
        asked(x, 1, true, 0, 0);
    }

    private static void replacedIdle() {
        Told x = Check.fleet(1);
        Check.beginForAll(x, 1, 1, 0);
        x.begin(2, 15, 255, 0);
        x.setRules(1, 100, 100, 1, 0);
        Check.same("eligible(0)", 0, x.eligible(0));
        Check.same("eligible(1)", 1, x.eligible(1));
        x.pass(1);
        Check.same("campaignOf(0)", 1, x.campaignOf(0));
    }

    // ---- shares

    private static void drawEqualToShare() {
        Told x = Check.fleet(1);
        x.begin(1, 15, 255, NONE);
        x.setRules(0, 12, 100, 1, 0);
        Check.same("eligible(0), the draw 13 and the share 12", 0, x.eligible(0));
        x.setRules(0, 13, 100, 1, 0);
        Check.same("eligible(0), the draw 13 and the share 13", 0, x.eligible(0));
        Check.same("pass(1)", 0, x.pass(1));
        x.setRules(0, 14, 100, 1, 0);
        Check.same("eligible(0), the draw 13 and the share 14", 1, x.eligible(0));
        Check.same("pass(1)", 1, x.pass(1));
    }

    private static void shareOfNone() {
        Told x = Check.fleet(10);
        for (int c = 0; c < 6; c++) {
            x.begin(1, 15, 255, NONE);
            x.setRules(c, 0, 100, 1, 0);
            Check.same("eligible(" + c + ")", 0, x.eligible(c));
        }
        Check.same("pass(100)", 0, x.pass(100));
    }

    private static void shareOfAll() {
        Told x = Check.fleet(10);
        for (int c = 0; c < 6; c++) {
            x.begin(1, 15, 255, NONE);
            x.setRules(c, 100, 100, 1, 0);
            Check.same("eligible(" + c + ")", ALL, x.eligible(c));
        }
    }

    private static void equalShares() {
        Told x = Check.fleet(10);
        x.begin(1, 15, 255, NONE);
        x.setRules(0, 25, 25, 1, 0);
        Check.same("eligible(0), the draws 13, 24 and 9", 1 | 1 << 3 | 1 << 8, x.eligible(0));
        x.pass(1);
        x.report(0, true);
        Check.same("ring(0)", 1, x.ring(0));
        Check.same("eligible(0), no further draws", 0, x.eligible(0));
        x.setRules(0, 25, 36, 1, 0);
        Check.same("eligible(0), the draw 35", 1 << 6, x.eligible(0));
    }

    private static void lastShare() {
        Told x = inRing(2);
        x.setRules(0, 0, 0, 10, 0);
        Check.same("eligible(0), all on trial or reported", 0, x.eligible(0));
        Told y = Check.fleet(2);
        Check.beginForAll(y, 1, 1, 0);
        y.pass(1);
        y.report(0, true);
        y.report(1, true);
        y.setRules(0, 0, 0, 10, 0);
        for (int d = 2; d < 10; d++) {
            y.addDevice(0, 0);
        }
        asked(y, 0, true, 2, 0);
        Check.same("eligible(0)", ALL - 3, y.eligible(0));
        Check.same("pass(1)", 8, y.pass(1));
    }

    /** The device 9 has the draw 46 in the campaign 0, and 1 in the campaign 5. */
    private static void drawWraps() {
        Told x = Check.fleet(10);
        for (int c = 0; c < 6; c++) {
            x.begin(1, 15, 255, NONE);
        }
        x.setRules(5, 2, 2, 1, 0);
        Check.same("eligible(5), 401 by 100", 1 << 9, x.eligible(5));
        x.setRules(5, 1, 1, 1, 0);
        Check.same("eligible(5)", 0, x.eligible(5));
        x.setRules(0, 47, 47, 1, 0);
        Check.same("eligible(0), 346 by 100 among them", 1 | 1 << 3 | 1 << 6 | 1 << 8 | 1 << 9, x.eligible(0));
        x.setRules(0, 46, 46, 1, 0);
        Check.same("eligible(0), without it", 1 | 1 << 3 | 1 << 6 | 1 << 8, x.eligible(0));
    }

    private static void lessShare() {
        Told x = Check.fleet(1);
        x.setImage(1, 200);
        Check.beginForAll(x, 1, 1, 0);
        x.pass(1);
        x.setRules(0, 0, 0, 1, 0);
        Check.same("campaignOf(0)", 0, x.campaignOf(0));
        Check.same("pass(1)", 1, x.pass(1));
        Check.same("report(0, true)", 1, x.report(0, true));
    }

    // ---- may take

    private static Told ofEachKind() {
        Told x = Check.fleet(0);
        for (int kind = 0; kind < 4; kind++) {
            x.addDevice(kind, 0);
        }
        return x;
    }

    private static int begun(Told x, int target, int kinds, int versions) {
        int campaign = x.begin(target, kinds, versions, NONE);
        x.setRules(campaign, 100, 100, 10, 1000);
        return campaign;
    }

    private static void setsOfKinds() {
        for (int kinds = 0; kinds < 16; kinds++) {
            Told x = ofEachKind();
            Check.same("eligible of the kinds " + kinds, kinds, x.eligible(begun(x, 1, kinds, 255)));
            Check.same("pass(1)", Integer.bitCount(kinds), x.pass(1));
        }
    }

    private static void setsOfVersions() {
        for (int versions = 0; versions < 256; versions++) {
            Told x = Check.fleet(0);
            for (int v = 0; v < 8; v++) {
                x.addDevice(0, v);
            }
            Check.same("eligible of the versions " + versions, versions & 127, x.eligible(begun(x, 7, 15, versions)));
            Check.same("eligible of the versions " + versions, versions & 253, x.eligible(begun(x, 1, 15, versions)));
        }
    }

    private static void targetInSet() {
        Told x = Check.fleet(1);
        x.addDevice(0, 1);
        Check.same("eligible", 1, x.eligible(begun(x, 1, 15, 3)));
        Check.same("eligible, the target alone", 0, x.eligible(begun(x, 1, 15, 2)));
        Check.same("pass(1)", 1, x.pass(1));
        Check.same("state(1), which has the target", Ringroll.IDLE, x.state(1));
    }

    private static void targetMayRun() {
        for (int kinds = 0; kinds < 16; kinds++) {
            Told x = ofEachKind();
            begun(x, 1, 15, 255);
            x.allow(1, kinds);
            Check.same("eligible(0), which may run on " + kinds, kinds, x.eligible(0));
        }
    }

    private static void wayOrNone() {
        Told x = Check.fleet(1);
        x.setImage(1, NONE);
        begun(x, 1, 15, 255);
        Check.same("eligible(0)", 0, x.eligible(0));
        Check.same("pass(1)", 0, x.pass(1));
        x.setDelta(1, 0, 5);
        Check.same("eligible(0)", 0, x.eligible(0));
        x.setDelta(2, 1, 5);
        Check.same("eligible(0), over the image of 2", 1, x.eligible(0));
        x.setDelta(2, 1, NONE);
        x.setDelta(0, 1, 5);
        Check.same("eligible(0), by a delta", 1, x.eligible(0));
        x.setDelta(0, 1, NONE);
        x.setImage(1, 5);
        Check.same("eligible(0), by an image", 1, x.eligible(0));
    }

    private static void hasFailed() {
        Told x = onTrial(10, 1000);
        x.report(4, false);
        Check.same("state(4)", Ringroll.IDLE, x.state(4));
        Check.same("version(4)", 0, x.version(4));
        Check.same("eligible(0)", 0, x.eligible(0));
        Check.same("pass(100)", 0, x.pass(100));
        Check.same("state(4)", Ringroll.IDLE, x.state(4));
    }

    private static void wasWell() {
        Told x = Check.fleet(1);
        begun(x, 1, 15, 255);
        begun(x, 2, 15, 2);
        x.pass(1);
        Check.same("report(0, true)", 1, x.report(0, true));
        Check.same("pass(1)", 1, x.pass(1));
        Check.same("report(0, true)", 2, x.report(0, true));
        Check.same("eligible(0), in which it has reported", 0, x.eligible(0));
        Check.same("pass(100)", 0, x.pass(100));
        Check.same("version(0)", 2, x.version(0));
        Check.same("eligible of a new one", 1, x.eligible(begun(x, 1, 15, 255)));
    }

    private static void reportedBefore() {
        Told x = Check.fleet(2);
        Check.beginForAll(x, 1, 1, 1000);
        x.pass(1);
        x.report(0, false);
        asked(x, 0, true, 1, 0);
        Check.same("eligible(0)", 0, x.eligible(0));
        x.report(1, false);
        asked(x, 0, true, 2, 0);
        Check.same("eligible(0)", 0, x.eligible(0));
        Check.same("pass(100)", 0, x.pass(100));
    }

    private static void reportedElsewhere() {
        Told x = Check.fleet(1);
        begun(x, 1, 15, 255);
        x.pass(1);
        x.report(0, false);
        begun(x, 1, 15, 255);
        Check.same("eligible(0)", 0, x.eligible(0));
        Check.same("eligible(1)", 1, x.eligible(1));
        Check.same("pass(1)", 1, x.pass(1));
        Check.same("campaignOf(0)", 1, x.campaignOf(0));
    }

    private static void notIdle() {
        Told x = Check.fleet(2);
        x.setWindow(1, 20, 20);
        begun(x, 1, 15, 255);
        begun(x, 2, 15, 255);
        Check.same("eligible(1)", 3, x.eligible(1));
        x.pass(1);
        Check.same("state(0)", Ringroll.TRIAL, x.state(0));
        Check.same("state(1)", Ringroll.LOADS, x.state(1));
        Check.same("eligible(0)", 0, x.eligible(0));
        Check.same("eligible(1)", 0, x.eligible(1));
    }

    // ---- the lowest campaign

    private interface Change {
        void on(Told x);
    }

    /** A device of the kind 0 and the draw 13 has two campaigns to take; after the change it takes the one that is due. */
    private static void passedOver(String what, Change change, int due) {
        Told x = Check.fleet(1);
        begun(x, 1, 15, 255);
        begun(x, 2, 15, 255);
        change.on(x);
        Check.same("eligible(0), " + what, 1 - due, x.eligible(0));
        Check.same("eligible(1), " + what, 1, x.eligible(1));
        Check.same("pass(1), " + what, 1, x.pass(1));
        Check.same("campaignOf(0), " + what, due, x.campaignOf(0));
        Check.same("report(0, true), " + what, due + 1, x.report(0, true));
    }

    private static void othersPassedOver() {
        Told x = Check.fleet(1);
        begun(x, 1, 14, 255);
        begun(x, 1, 15, 254);
        begun(x, 0, 15, 255);
        begun(x, 1, 0, 0);
        begun(x, 3, 1, 1);
        begun(x, 1, 15, 255);
        x.pass(1);
        Check.same("campaignOf(0)", 4, x.campaignOf(0));
    }

    private static void stoppedMeanwhile() {
        Told x = Check.fleet(1);
        x.setImage(1, NONE);
        begun(x, 1, 15, 255);
        x.pass(1);
        x.toggle(0);
        x.setImage(1, 100);
        Check.same("pass(1)", 0, x.pass(1));
        Check.same("state(0)", Ringroll.IDLE, x.state(0));
        x.toggle(0);
        Check.same("pass(1)", 1, x.pass(1));
    }

    private static void nextHour() {
        Told x = Check.fleet(1);
        begun(x, 1, 15, 255);
        begun(x, 2, 15, 255);
        x.pass(50);
        x.report(0, true);
        Check.same("state(0)", Ringroll.IDLE, x.state(0));
        Check.same("campaignOf(0)", NONE, x.campaignOf(0));
        Check.same("pass(1)", 1, x.pass(1));
        Check.same("campaignOf(0)", 1, x.campaignOf(0));
    }

    // ---- rings

    private static void oneReportLess() {
        for (int needs = 2; needs <= 10; needs++) {
            Told x = onTrial(needs, 0);
            for (int d = 1; d < needs; d++) {
                x.report(d, true);
                asked(x, 0, true, 0, d);
            }
        }
    }

    private static void asManyReports() {
        Told x = onTrial(1, 0);
        x.report(9, true);
        asked(x, 0, true, 1, 0);
        Told y = onTrial(10, 0);
        for (int d = 9; d > 0; d--) {
            y.report(d, true);
        }
        asked(y, 0, true, 0, 9);
        y.report(0, true);
        asked(y, 0, true, 1, 0);
    }

    private static void moreReports() {
        Told x = onTrial(10, 500);
        for (int d = 0; d < 5; d++) {
            x.report(d, d != 0);
        }
        x.setRules(0, 100, 100, 2, 500);
        x.report(5, false);
        asked(x, 0, true, 1, 0);
        Told y = onTrial(10, 500);
        for (int d = 0; d < 5; d++) {
            y.report(d, d == 0);
        }
        y.setRules(0, 100, 100, 2, 500);
        y.report(5, true);
        asked(y, 0, false, 0, 6);
    }

    private static void rulesJudgeNothing() {
        Told x = onTrial(10, 1000);
        x.report(0, false);
        x.report(1, true);
        x.setRules(0, 100, 100, 1, 0);
        asked(x, 0, true, 0, 2);
        x.pass(1);
        asked(x, 0, true, 0, 2);
        x.toggle(0);
        x.setRules(0, 0, 100, 1, 1000);
        asked(x, 0, false, 0, 2);
    }

    private static void nextRingEmpty() {
        Told x = onTrial(3, 0);
        for (int ring = 0; ring < 2; ring++) {
            for (int d = 0; d < 3; d++) {
                asked(x, 0, true, ring, d);
                x.report(ring * 3 + d, true);
            }
            asked(x, 0, true, ring + 1, 0);
        }
    }

    private static void nextRingUnfailed() {
        Told x = onTrial(2, 500);
        x.report(0, false);
        x.report(1, true);
        asked(x, 0, true, 1, 0);
        x.report(2, false);
        x.report(3, true);
        asked(x, 0, true, 2, 0);
        x.report(4, false);
        x.report(5, true);
        asked(x, 0, true, 2, 2);
    }

    private static void lastRingStays() {
        Told x = inRing(2);
        for (int d = 2; d < 10; d++) {
            x.report(d, true);
            asked(x, 0, true, 2, d - 1);
        }
    }

    private static void lastRingStops() {
        Told x = inRing(2);
        x.report(2, true);
        x.report(3, false);
        asked(x, 0, false, 2, 2);
        x.report(4, true);
        asked(x, 0, false, 2, 3);
    }

    private static void ringOfNow() {
        Told x = Check.fleet(2);
        x.setImage(1, 300);
        x.setWindow(1, 10, 10);
        Check.beginForAll(x, 1, 1, 0);
        x.pass(3);
        x.report(0, true);
        asked(x, 0, true, 1, 0);
        x.setRules(0, 0, 0, 2, 0);
        x.setWindow(1, 0, 23);
        Check.same("pass(3), taken in the ring 0", 1, x.pass(3));
        x.report(1, true);
        asked(x, 0, true, 1, 1);
    }

    // ---- judging

    /** As many devices report as are needed, the failures first; then the next ring begins, or the campaign is stopped. */
    private static void judged(int needs, int failures, int thousandths, boolean goesOn) {
        Told x = onTrial(needs, thousandths);
        for (int d = 0; d < needs; d++) {
            asked(x, 0, true, 0, d);
            x.report(d, d >= failures);
        }
        asked(x, 0, goesOn, goesOn ? 1 : 0, goesOn ? 0 : needs);
    }

    private static void unevenThousandths() {
        judged(3, 1, 333, false);
        judged(3, 1, 334, true);
        judged(3, 2, 666, false);
        judged(3, 2, 667, true);
        judged(7, 3, 428, false);
        judged(7, 3, 429, true);
    }

    private static void failuresBefore() {
        Told x = onTrial(4, 500);
        x.report(0, false);
        x.report(1, false);
        asked(x, 0, true, 0, 2);
        x.report(2, true);
        asked(x, 0, true, 0, 3);
        x.report(3, true);
        asked(x, 0, true, 1, 0);
    }

    private static void stoppedKeeps() {
        Told x = inRing(1);
        x.setRules(0, 100, 100, 2, 499);
        x.report(1, false);
        x.report(2, true);
        asked(x, 0, false, 1, 2);
        Check.same("eligible(0)", 0, x.eligible(0));
        x.report(3, true);
        x.report(4, true);
        asked(x, 0, false, 1, 4);
    }

    private static void stoppedNotJudged() {
        Told x = onTrial(2, 1000);
        x.toggle(0);
        for (int d = 0; d < 10; d++) {
            x.report(d, d % 2 == 0);
            asked(x, 0, false, 0, d + 1);
        }
    }

    // ---- toggle

    private static void stoppingLeaves() {
        for (int ring = 0; ring < 3; ring++) {
            Told x = inRing(ring);
            x.setRules(0, 100, 100, 10, 0);
            x.report(7, true);
            x.report(8, true);
            Check.no("toggle(0)", x.toggle(0));
            asked(x, 0, false, ring, 2);
        }
    }

    private static void begunAnew(int ring) {
        Told x = inRing(ring);
        x.setRules(0, 100, 100, 3, 0);
        x.report(6, true);
        x.report(7, true);
        x.toggle(0);
        Check.yes("toggle(0)", x.toggle(0));
        asked(x, 0, true, ring, 0);
        x.report(8, true);
        asked(x, 0, true, ring, 1);
    }

    private static void begunWithoutFailures() {
        Told x = onTrial(2, 0);
        x.report(0, false);
        x.toggle(0);
        x.toggle(0);
        x.report(1, true);
        x.report(2, true);
        asked(x, 0, true, 1, 0);
        Told y = onTrial(2, 0);
        y.report(0, false);
        y.report(1, false);
        asked(y, 0, false, 0, 2);
        y.toggle(0);
        y.report(2, true);
        y.report(3, true);
        asked(y, 0, true, 1, 0);
    }

    private static void loadsGoOn() {
        Told x = Check.fleet(1);
        x.setImage(1, 400);
        Check.beginForAll(x, 1, 10, 0);
        x.pass(1);
        x.toggle(0);
        Check.same("campaignOf(0), stopped", 0, x.campaignOf(0));
        x.pass(1);
        Check.same("toGo(0), stopped", 200, x.toGo(0));
        x.toggle(0);
        Check.same("campaignOf(0), begun anew", 0, x.campaignOf(0));
        x.pass(1);
        Check.same("toGo(0), begun anew", 100, x.toGo(0));
        x.toggle(0);
        Check.same("pass(1), stopped", 1, x.pass(1));
        asked(x, 0, false, 0, 0);
    }

    private static void trialsGoOn() {
        Told x = onTrial(2, 0);
        x.report(0, true);
        x.toggle(0);
        Check.same("state(1)", Ringroll.TRIAL, x.state(1));
        x.toggle(0);
        Check.same("state(1)", Ringroll.TRIAL, x.state(1));
        Check.same("report(1, true)", 1, x.report(1, true));
        asked(x, 0, true, 0, 1);
        x.report(2, true);
        asked(x, 0, true, 1, 0);
    }

    private static void reportersStay() {
        Told x = onTrial(10, 1000);
        x.report(5, false);
        x.toggle(0);
        x.toggle(0);
        asked(x, 0, true, 0, 0);
        Check.same("eligible(0)", 0, x.eligible(0));
        Check.same("pass(100)", 0, x.pass(100));
    }

    private static void othersStay() {
        Told x = onTrial(10, 1000);
        Check.beginForAll(x, 2, 10, 1000);
        x.report(0, true);
        x.pass(1);
        x.report(0, true);
        asked(x, 0, true, 0, 1);
        asked(x, 1, true, 0, 1);
        x.toggle(1);
        x.toggle(1);
        asked(x, 0, true, 0, 1);
        asked(x, 1, true, 0, 0);
        x.toggle(0);
        asked(x, 1, true, 0, 0);
    }

    private static void rulesStay() {
        Told x = Check.fleet(10);
        x.begin(1, 15, 255, NONE);
        x.setRules(0, 14, 25, 2, 500);
        x.toggle(0);
        x.toggle(0);
        Check.same("eligible(0), the draws 13 and 9", 1 | 1 << 8, x.eligible(0));
        x.pass(1);
        x.report(0, true);
        x.report(8, false);
        asked(x, 0, true, 1, 0);
        x.toggle(0);
        x.toggle(0);
        Check.same("eligible(0), the draw 24", 1 << 3, x.eligible(0));
    }
}
