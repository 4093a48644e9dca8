/** Promises 2 to 6: kinds, images, deltas and the sizes between versions. */
final class VersionsTest {
    private static final int NONE = Ringroll.NONE;

    private VersionsTest() {
    }

    static void run() {
        Check.test("promise 2: allow answers the set before, a version each", VersionsTest::allowAnswersBefore);
        Check.test("promise 2: allow rules which devices may be told", VersionsTest::allowRulesDevices);
        Check.test("promise 2: allow rules which kinds may take a target", VersionsTest::allowRulesTargets);
        Check.test("promise 2: devices that have a version keep it", VersionsTest::devicesKeepVersion);
        Check.test("promise 3: setImage answers the size before", VersionsTest::imageAnswersBefore);
        Check.test("promise 4: setDelta answers the size before, a pair each", VersionsTest::deltaAnswersBefore);
        Check.test("promises 5 and 6: rows of deltas", VersionsTest::rowsOfDeltas);
        Check.test("promises 5 and 6: the document's ways with images", VersionsTest::waysWithImages);
        Check.test("promises 5 and 6: the longest and largest way", VersionsTest::longestWay);
        Check.test("promises 5 and 6: a delta that is taken away", VersionsTest::deltaTakenAway);
        Check.test("promises 5 and 6: a way over each version", VersionsTest::wayOverEach);
        Check.test("promises 5 and 6: all pairs of a full graph", VersionsTest::fullGraph);
    }

    private static void sizes(Told x, int from, int to, int due) {
        Check.same("size(" + from + ", " + to + ")", due, x.size(from, to));
        Check.same("sizeByWays(" + from + ", " + to + ")", due, x.sizeByWays(from, to));
    }

    private static void allowAnswersBefore() {
        Told x = new Told();
        Check.same("allow(0, 0)", 15, x.allow(0, 0));
        Check.same("allow(0, 15)", 0, x.allow(0, 15));
        Check.same("allow(7, 9)", 15, x.allow(7, 9));
        Check.same("allow(7, 3)", 9, x.allow(7, 3));
        Check.same("allow(0, 1)", 15, x.allow(0, 1));
    }

    private static void allowRulesDevices() {
        Told x = new Told();
        for (int kind = 0; kind < 4; kind++) {
            int other = kind;
            x.allow(3, 15 - (1 << kind));
            Check.refuses("addDevice(" + kind + ", 3)", Check.STATE, x, () -> x.addDevice(other, 3));
            x.allow(3, 1 << kind);
            Check.same("addDevice(" + kind + ", 3)", kind, x.addDevice(kind, 3));
        }
    }

    private static void allowRulesTargets() {
        Told x = new Told();
        x.setImage(1, 10);
        for (int kind = 0; kind < 4; kind++) {
            x.addDevice(kind, 0);
        }
        Check.beginForAll(x, 1, 1, 0);
        Check.same("eligible(0)", 15, x.eligible(0));
        x.allow(1, 5);
        Check.same("eligible(0)", 5, x.eligible(0));
        x.allow(0, 0);
        Check.same("eligible(0), whatever the version before may run on", 5, x.eligible(0));
        x.allow(1, 0);
        Check.same("eligible(0)", 0, x.eligible(0));
        Check.same("pass(1)", 0, x.pass(1));
    }

    private static void devicesKeepVersion() {
        Told x = Check.fleet(2);
        x.allow(0, 0);
        Check.same("version(0)", 0, x.version(0));
        Check.beginForAll(x, 1, 1, 0);
        Check.same("pass(1)", 2, x.pass(1));
        x.allow(1, 0);
        Check.same("report(0, true) of a target that no kind may run any more", 1, x.report(0, true));
        Check.same("report(1, false)", 0, x.report(1, false));
        Check.same("version(1)", 0, x.version(1));
    }

    private static void imageAnswersBefore() {
        Told x = new Told();
        Check.same("setImage(0, 1)", NONE, x.setImage(0, 1));
        Check.same("setImage(7, 100000)", NONE, x.setImage(7, 100000));
        Check.same("setImage(0, NONE)", 1, x.setImage(0, NONE));
        Check.same("setImage(0, 5)", NONE, x.setImage(0, 5));
        Check.same("setImage(7, 6)", 100000, x.setImage(7, 6));
        Check.same("setImage(7, NONE)", 6, x.setImage(7, NONE));
    }

    private static void deltaAnswersBefore() {
        Told x = new Told();
        Check.same("setDelta(0, 7, 1)", NONE, x.setDelta(0, 7, 1));
        Check.same("setDelta(7, 0, 100000)", NONE, x.setDelta(7, 0, 100000));
        Check.same("setDelta(0, 7, 9)", 1, x.setDelta(0, 7, 9));
        Check.same("setDelta(7, 0, NONE)", 100000, x.setDelta(7, 0, NONE));
        Check.same("setDelta(7, 0, 2)", NONE, x.setDelta(7, 0, 2));
        Check.same("setDelta(0, 7, NONE)", 9, x.setDelta(0, 7, NONE));
        Check.same("setDelta(0, 6, 3)", NONE, x.setDelta(0, 6, 3));
    }

    private static void rowsOfDeltas() {
        Told x = new Told();
        x.setDelta(0, 1, 150);
        x.setDelta(1, 2, 100);
        sizes(x, 0, 1, 150);
        sizes(x, 0, 2, 250);
        sizes(x, 2, 0, NONE);
        sizes(x, 1, 0, NONE);
        sizes(x, 1, 1, 0);
        x.setDelta(0, 2, 251);
        sizes(x, 0, 2, 250);
        x.setDelta(0, 2, 249);
        sizes(x, 0, 2, 249);
        x.setDelta(2, 0, 1);
        sizes(x, 0, 0, 0);
        sizes(x, 1, 0, 101);
    }

    private static void waysWithImages() {
        Told x = new Told();
        x.setImage(2, 400);
        sizes(x, 3, 2, 400);
        sizes(x, 2, 2, 0);
        sizes(x, 2, 1, NONE);
        x.setDelta(0, 1, 150);
        x.setDelta(1, 2, 300);
        sizes(x, 0, 2, 400);
        sizes(x, 1, 2, 300);
        x.setImage(1, 20);
        sizes(x, 0, 2, 320);
        sizes(x, 7, 2, 320);
        sizes(x, 0, 1, 20);
        sizes(x, 1, 2, 300);
        x.setImage(1, NONE);
        sizes(x, 0, 1, 150);
        sizes(x, 0, 2, 400);
        x.setImage(2, NONE);
        sizes(x, 0, 2, 450);
        sizes(x, 7, 2, NONE);
    }

    private static void longestWay() {
        Told x = new Told();
        for (int v = 0; v < 7; v++) {
            x.setDelta(v, v + 1, 100000);
        }
        sizes(x, 0, 7, 700000);
        sizes(x, 7, 0, NONE);
        x.setImage(0, 100000);
        sizes(x, 7, 0, 100000);
        sizes(x, 7, 6, 700000);
        sizes(x, 0, 7, 700000);
    }

    private static void deltaTakenAway() {
        Told x = new Told();
        x.setDelta(0, 1, 5);
        x.setDelta(1, 2, 5);
        sizes(x, 0, 2, 10);
        x.setDelta(1, 2, NONE);
        sizes(x, 0, 2, NONE);
        sizes(x, 0, 1, 5);
        x.setDelta(1, 2, 7);
        sizes(x, 0, 2, 12);
    }

    private static void wayOverEach() {
        for (int via = 0; via < 8; via++) {
            Told x = new Told();
            int from = (via + 3) % 8;
            int to = (via + 6) % 8;
            x.setDelta(from, via, 11);
            x.setDelta(via, to, 22);
            sizes(x, from, to, 33);
            sizes(x, to, from, NONE);
            x.setImage(from, 4);
            sizes(x, (via + 1) % 8, to, 37);
            x.setImage(via, 5);
            sizes(x, from, to, 27);
        }
    }

    private static void fullGraph() {
        Told x = new Told();
        for (int from = 0; from < 8; from++) {
            x.setImage(from, 90 + from);
            for (int to = 0; to < 8; to++) {
                if (from != to) {
                    // Cheap steps upwards by one, dear ones elsewhere: the least way is a chain, or an image and a chain.
                    x.setDelta(from, to, to == from + 1 ? 10 : 1000);
                }
            }
        }
        for (int from = 0; from < 8; from++) {
            for (int to = 0; to < 8; to++) {
                sizes(x, from, to, from <= to ? 10 * (to - from) : 90 + to);
            }
        }
    }
}
