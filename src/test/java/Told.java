import java.util.ArrayList;
import java.util.List;
import java.util.function.ToIntFunction;

/**
 * An object under test with all the calls that it has been told, so that twins of it can be made. It fails a test
 * that calls it more often than the document promises anything.
 */
final class Told {
    static final int MOST_CALLS = 512;

    private final Ringroll object = new Ringroll();
    private final List<ToIntFunction<Ringroll>> calls = new ArrayList<>();

    int calls() {
        return calls.size();
    }

    /** A new object that has been told the first calls of this one, also those that were refused. */
    Told twin(int first) {
        Told twin = new Told();
        for (ToIntFunction<Ringroll> call : calls.subList(0, first)) {
            try {
                twin.tell(call);
            } catch (IndexOutOfBoundsException | IllegalArgumentException | IllegalStateException refused) {
                // The call was refused here too; the test that told it has looked at that.
            }
        }
        return twin;
    }

    private int tell(ToIntFunction<Ringroll> call) {
        if (calls.size() >= MOST_CALLS) {
            throw new AssertionError("a test asks what the document leaves free: the call " + (MOST_CALLS + 1));
        }
        calls.add(call);
        return call.applyAsInt(object);
    }

    int allow(int version, int kinds) {
        return tell(r -> r.allow(version, kinds));
    }

    int setImage(int version, int size) {
        return tell(r -> r.setImage(version, size));
    }

    int setDelta(int from, int to, int size) {
        return tell(r -> r.setDelta(from, to, size));
    }

    int size(int from, int to) {
        return tell(r -> r.size(from, to));
    }

    int sizeByWays(int from, int to) {
        return tell(r -> r.sizeByWays(from, to));
    }

    int addDevice(int kind, int version) {
        return tell(r -> r.addDevice(kind, version));
    }

    int charge(int device, int battery) {
        return tell(r -> r.charge(device, battery));
    }

    void setWindow(int device, int first, int last) {
        tell(r -> {
            r.setWindow(device, first, last);
            return 0;
        });
    }

    int report(int device, boolean isWell) {
        return tell(r -> r.report(device, isWell));
    }

    int devices() {
        return tell(r -> r.devices());
    }

    int state(int device) {
        return tell(r -> r.state(device));
    }

    int version(int device) {
        return tell(r -> r.version(device));
    }

    int campaignOf(int device) {
        return tell(r -> r.campaignOf(device));
    }

    int toGo(int device) {
        return tell(r -> r.toGo(device));
    }

    int battery(int device) {
        return tell(r -> r.battery(device));
    }

    int begin(int target, int kinds, int versions, int replaced) {
        return tell(r -> r.begin(target, kinds, versions, replaced));
    }

    void setRules(int campaign, int first, int second, int needs, int thousandths) {
        tell(r -> {
            r.setRules(campaign, first, second, needs, thousandths);
            return 0;
        });
    }

    boolean toggle(int campaign) {
        return tell(r -> r.toggle(campaign) ? 1 : 0) == 1;
    }

    boolean isActive(int campaign) {
        return tell(r -> r.isActive(campaign) ? 1 : 0) == 1;
    }

    int ring(int campaign) {
        return tell(r -> r.ring(campaign));
    }

    int reports(int campaign) {
        return tell(r -> r.reports(campaign));
    }

    int eligible(int campaign) {
        return tell(r -> r.eligible(campaign));
    }

    int pass(int hours) {
        return tell(r -> r.pass(hours));
    }
}
