/** Runs every test of the project; the last line tells how many passed and failed. */
public final class AllTests {
    private AllTests() {
    }

    public static void main(String[] args) {
        FaceTest.run();
        VersionsTest.run();
        DevicesTest.run();
        CampaignsTest.run();
        HoursTest.run();
        RefusalsTest.run();
        EdgesTest.run();
        CampaignEdgesTest.run();
        ModelTest.run();
        ReadmeTest.run();
        System.out.println("tests of the project: " + Check.passed + " passed, " + Check.failed + " failed");
        if (Check.failed != 0 || Check.passed == 0) {
            System.exit(1);
        }
    }
}
