import java.util.ArrayList;
import java.util.HashSet;
import java.util.List;
import java.util.Set;
import java.util.TreeSet;

/**
 * The document again, told in another way: sets instead of bits, sizes by relaxing until nothing gets less, the
 * clock as it is, and nothing kept that can be counted anew. The runs are compared with it.
 */
final class Model {
    private static final int NONE = -1;

    private static final class Machine {
        int kind;
        int version;
        int battery = 100;
        Set<Integer> window = hours(0, 23);
        int state = 0;
        int campaign = NONE;
        int toGo = 0;
    }

    private static final class Plan {
        int target;
        Set<Integer> kinds;
        Set<Integer> versions;
        int[] shares = {10, 50, 100};
        int needs = 3;
        int thousandths = 200;
        boolean isActive = true;
        int ring = 0;
        List<Boolean> ringReports = new ArrayList<>();
        Set<Integer> reporters = new HashSet<>();
    }

    private final int[] allowed = {15, 15, 15, 15, 15, 15, 15, 15};
    private final int[] images = {-1, -1, -1, -1, -1, -1, -1, -1};
    private final int[][] deltas = new int[8][8];
    private final List<Machine> machines = new ArrayList<>();
    private final List<Plan> plans = new ArrayList<>();
    private long clock = 0;

    Model() {
        for (int[] row : deltas) {
            java.util.Arrays.fill(row, NONE);
        }
    }

    private static Set<Integer> hours(int first, int last) {
        Set<Integer> set = new TreeSet<>();
        int hour = first;
        set.add(hour);
        while (hour != last) {
            hour = (hour + 1) % 24;
            set.add(hour);
        }
        return set;
    }

    private static Set<Integer> members(int bits) {
        Set<Integer> set = new TreeSet<>();
        for (int i = 0; i < 8; i++) {
            if ((bits & 1 << i) != 0) {
                set.add(i);
            }
        }
        return set;
    }

    private static void index(boolean fine) {
        if (!fine) {
            throw new IndexOutOfBoundsException();
        }
    }

    private static void argument(boolean fine) {
        if (!fine) {
            throw new IllegalArgumentException();
        }
    }

    private static void ready(boolean fine) {
        if (!fine) {
            throw new IllegalStateException();
        }
    }

    private static boolean in(int value, int least, int most) {
        return least <= value && value <= most;
    }

    private Machine machine(int device) {
        index(in(device, 0, machines.size() - 1));
        return machines.get(device);
    }

    private Plan plan(int campaign) {
        index(in(campaign, 0, plans.size() - 1));
        return plans.get(campaign);
    }

    int allow(int version, int kinds) {
        index(in(version, 0, 7));
        argument(in(kinds, 0, 15));
        int before = allowed[version];
        allowed[version] = kinds;
        return before;
    }

    int setImage(int version, int size) {
        index(in(version, 0, 7));
        argument(size == NONE || in(size, 1, 100000));
        int before = images[version];
        images[version] = size;
        return before;
    }

    int setDelta(int from, int to, int size) {
        index(in(from, 0, 7) && in(to, 0, 7));
        argument(from != to && (size == NONE || in(size, 1, 100000)));
        int before = deltas[from][to];
        deltas[from][to] = size;
        return before;
    }

    int size(int from, int to) {
        index(in(from, 0, 7) && in(to, 0, 7));
        long[] cost = new long[8];
        for (int v = 0; v < 8; v++) {
            cost[v] = v == from ? 0 : images[v] == NONE ? Long.MAX_VALUE : images[v];
        }
        boolean changed = true;
        while (changed) {
            changed = false;
            for (int a = 0; a < 8; a++) {
                for (int b = 0; b < 8; b++) {
                    if (cost[a] != Long.MAX_VALUE && deltas[a][b] != NONE && cost[a] + deltas[a][b] < cost[b]) {
                        cost[b] = cost[a] + deltas[a][b];
                        changed = true;
                    }
                }
            }
        }
        return cost[to] == Long.MAX_VALUE ? NONE : (int) cost[to];
    }

    int addDevice(int kind, int version) {
        index(in(kind, 0, 3) && in(version, 0, 7));
        ready(machines.size() < 10 && members(allowed[version]).contains(kind));
        Machine machine = new Machine();
        machine.kind = kind;
        machine.version = version;
        machines.add(machine);
        return machines.size() - 1;
    }

    int charge(int device, int battery) {
        Machine machine = machine(device);
        argument(in(battery, 0, 100));
        int before = machine.battery;
        machine.battery = battery;
        return before;
    }

    int setWindow(int device, int first, int last) {
        Machine machine = machine(device);
        argument(in(first, 0, 23) && in(last, 0, 23));
        machine.window = hours(first, last);
        return 0;
    }

    int report(int device, boolean isWell) {
        Machine machine = machine(device);
        ready(machine.state == 2);
        Plan plan = plan(machine.campaign);
        if (isWell) {
            machine.version = plan.target;
        }
        machine.state = 0;
        machine.campaign = NONE;
        plan.reporters.add(device);
        plan.ringReports.add(isWell);
        if (plan.isActive && plan.ringReports.size() >= plan.needs) {
            long failures = plan.ringReports.stream().filter(well -> !well).count();
            if (failures * 1000 > (long) plan.ringReports.size() * plan.thousandths) {
                plan.isActive = false;
            } else if (plan.ring < 2) {
                plan.ring++;
                plan.ringReports.clear();
            }
        }
        return machine.version;
    }

    int devices() {
        return machines.size();
    }

    int state(int device) {
        return machine(device).state;
    }

    int version(int device) {
        return machine(device).version;
    }

    int campaignOf(int device) {
        return machine(device).campaign;
    }

    int toGo(int device) {
        Machine machine = machine(device);
        return machine.state == 1 ? machine.toGo : 0;
    }

    int battery(int device) {
        return machine(device).battery;
    }

    int begin(int target, int kinds, int versions, int replaced) {
        index(in(target, 0, 7) && in(replaced, NONE, plans.size() - 1));
        argument(in(kinds, 0, 15) && in(versions, 0, 255));
        ready(plans.size() < 6);
        if (replaced != NONE) {
            plans.get(replaced).isActive = false;
        }
        Plan plan = new Plan();
        plan.target = target;
        plan.kinds = members(kinds);
        plan.versions = members(versions);
        plans.add(plan);
        return plans.size() - 1;
    }

    int setRules(int campaign, int first, int second, int needs, int thousandths) {
        Plan plan = plan(campaign);
        argument(in(first, 0, 100) && in(second, first, 100) && in(needs, 1, 10) && in(thousandths, 0, 1000));
        plan.shares = new int[] {first, second, 100};
        plan.needs = needs;
        plan.thousandths = thousandths;
        return 0;
    }

    int toggle(int campaign) {
        Plan plan = plan(campaign);
        if (plan.isActive) {
            plan.isActive = false;
            return 0;
        }
        plan.isActive = true;
        plan.ringReports.clear();
        return 1;
    }

    int isActive(int campaign) {
        return plan(campaign).isActive ? 1 : 0;
    }

    int ring(int campaign) {
        return plan(campaign).ring;
    }

    int reports(int campaign) {
        return plan(campaign).ringReports.size();
    }

    int eligible(int campaign) {
        plan(campaign);
        int set = 0;
        for (int d = 0; d < machines.size(); d++) {
            set += mayTake(d, campaign) ? (int) Math.pow(2, d) : 0;
        }
        return set;
    }

    private boolean mayTake(int device, int campaign) {
        Machine machine = machines.get(device);
        Plan plan = plans.get(campaign);
        return machine.state == 0
                && plan.isActive
                && plan.kinds.contains(machine.kind)
                && members(allowed[plan.target]).contains(machine.kind)
                && plan.versions.contains(machine.version)
                && machine.version != plan.target
                && (device * 37 + campaign * 11 + 13) % 100 < plan.shares[plan.ring]
                && !plan.reporters.contains(device)
                && size(machine.version, plan.target) != NONE;
    }

    int pass(int hours) {
        argument(in(hours, 1, 100));
        int trials = 0;
        for (int h = 0; h < hours; h++) {
            for (int d = 0; d < machines.size(); d++) {
                Machine machine = machines.get(d);
                for (int c = 0; c < plans.size() && machine.state == 0; c++) {
                    if (mayTake(d, c)) {
                        machine.state = 1;
                        machine.campaign = c;
                        machine.toGo = size(machine.version, plans.get(c).target);
                    }
                }
                if (machine.state == 1 && machine.window.contains((int) (clock % 24)) && machine.battery >= 20) {
                    machine.toGo -= 100;
                    machine.battery -= 1;
                    if (machine.toGo <= 0) {
                        machine.state = 2;
                        trials++;
                    }
                }
            }
            clock++;
        }
        return trials;
    }
}
