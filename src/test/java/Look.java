import java.util.ArrayList;
import java.util.List;

/**
 * Looks at all that an object holds, also at what no call answers outright (kinds, windows, the clock, rules, failures,
 * who has reported): each look is at a twin of its own, because it changes what it looks at.
 */
final class Look {
    private static final int LOOKS = 4;
    private static final int ROUNDS = 3;

    private final Told x;
    private final StringBuilder text = new StringBuilder();
    private final int devices;
    private final int campaigns;

    private Look(Told twin) {
        x = twin;
        devices = x.devices();
        campaigns = Check.campaigns(x);
    }

    /** What an object shows that has been told the first calls of x. */
    static List<String> at(Told x, int first) {
        List<String> seen = new ArrayList<>();
        for (int look = 0; look < LOOKS; look++) {
            Look one = new Look(x.twin(first));
            switch (look) {
                case 0 -> one.askAll();
                case 1 -> one.setAll();
                case 2 -> one.loadADay();
                default -> one.rollOut();
            }
            seen.add(one.text.toString());
        }
        return seen;
    }

    private void see(String what, int value) {
        text.append(what).append(' ').append(value).append("; ");
    }

    private void askAll() {
        for (int from = 0; from < 8; from++) {
            for (int to = 0; to < 8; to++) {
                see("size " + from + " " + to, x.size(from, to));
            }
        }
        for (int d = 0; d < devices; d++) {
            see("state of " + d, x.state(d));
            see("version", x.version(d));
            see("campaign", x.campaignOf(d));
            see("to go", x.toGo(d));
            see("battery", x.battery(d));
        }
        for (int c = 0; c < campaigns; c++) {
            see("eligible of " + c, x.eligible(c));
            askCampaign(c);
        }
    }

    private void askCampaign(int campaign) {
        see("active of " + campaign, x.isActive(campaign) ? 1 : 0);
        see("ring", x.ring(campaign));
        see("reports", x.reports(campaign));
    }

    /** Sees what was told by what is answered as the value before. */
    private void setAll() {
        for (int v = 0; v < 8; v++) {
            see("kinds of " + v, x.allow(v, 15));
            see("image of " + v, x.setImage(v, Ringroll.NONE));
            for (int to = 0; to < 8; to++) {
                if (v != to) {
                    see("delta " + v + " " + to, x.setDelta(v, to, Ringroll.NONE));
                }
            }
        }
        for (int d = 0; d < devices; d++) {
            see("charge of " + d, x.charge(d, 0));
        }
    }

    /** Lets every device load for a day, and sees by the batteries in which hours it does: its window and the clock. */
    private void loadADay() {
        setImages(100000);
        for (int d = 0; d < devices; d++) {
            if (x.state(d) == Ringroll.TRIAL) {
                x.report(d, false);
            }
            x.charge(d, 100);
        }
        for (int c = campaigns; c < 6; c++) {
            Check.beginForAll(x, c % 2 + 6, 10, 1000);
        }
        for (int hour = 0; hour < 24; hour++) {
            x.pass(1);
            for (int d = 0; d < devices; d++) {
                see("battery of " + d + " after " + hour, x.battery(d));
            }
        }
    }

    /** Lets the campaigns go on as they are, a failure in three reports: rules, failures, and who has reported. */
    private void rollOut() {
        setImages(100);
        for (int round = 0; round < ROUNDS; round++) {
            for (int d = 0; d < devices; d++) {
                x.charge(d, 100);
            }
            see("trials", x.pass(24));
            for (int d = 0; d < devices; d++) {
                if (x.state(d) == Ringroll.TRIAL) {
                    int campaign = x.campaignOf(d);
                    see("report of " + d, x.report(d, (d + round) % 3 != 0));
                    askCampaign(campaign);
                }
            }
        }
    }

    private void setImages(int size) {
        for (int v = 0; v < 8; v++) {
            x.allow(v, 15);
            x.setImage(v, size);
        }
    }
}
