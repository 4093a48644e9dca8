/** The program that README.md shows; each line that prints has behind it what it prints. */
public final class Example {
    private Example() {
    }

    public static void main(String[] args) {
        Ringroll fleet = new Ringroll();

        // The version 2 has an image of 400, and a smaller delta leads to it from the version 0.
        fleet.setImage(2, 400);
        fleet.setDelta(0, 2, 250);
        System.out.println(fleet.size(0, 2)); // 250
        System.out.println(fleet.size(1, 2)); // 400
        System.out.println(fleet.size(2, 0) == Ringroll.NONE); // true

        // A device of the kind 0 with the version 0, that loads from 22 to 5 o'clock alone.
        int device = fleet.addDevice(0, 0);
        fleet.setWindow(device, 22, 5);

        // A campaign to the version 2 for all kinds (15) and versions (255), that replaces none.
        int campaign = fleet.begin(2, 15, 255, Ringroll.NONE);
        System.out.println(fleet.eligible(campaign)); // 0
        fleet.setRules(campaign, 20, 50, 1, 200);
        System.out.println(fleet.eligible(campaign)); // 1

        // Two hours load 100 each; the third one loads the rest, and the device is on trial.
        System.out.println(fleet.pass(2)); // 0
        System.out.println(fleet.toGo(device)); // 50
        System.out.println(fleet.pass(1)); // 1
        System.out.println(fleet.state(device) == Ringroll.TRIAL); // true
        System.out.println(fleet.battery(device)); // 97

        // It is well: it has the version 2, and the one report that the ring 0 needs widens the campaign.
        System.out.println(fleet.report(device, true)); // 2
        System.out.println(fleet.ring(campaign)); // 1

        // A call that can't be done throws, and changes nothing.
        try {
            fleet.report(device, true);
        } catch (IllegalStateException notOnTrial) {
            System.out.println("it is not on trial"); // it is not on trial
        }
    }
}
