import java.util.Arrays;

/** An updater of a fleet of devices. What it must do stands in ../shared/DOC.md, as promises 1 to 24. */
public final class Ringroll {
    public static final int NONE = -1;
    public static final int IDLE = 0, LOADS = 1, TRIAL = 2;

    private static final int VERSIONS = 8;
    private static final int ALL_VERSIONS = 255;
    private static final int KINDS = 4;
    private static final int ALL_KINDS = 15;
    private static final int MOST_BYTES = 100000;

    private static final int MOST_DEVICES = 10;
    private static final int FULL_BATTERY = 100;
    private static final int LEAST_BATTERY = 20;
    private static final int BYTES_AN_HOUR = 100;

    private static final int MOST_CAMPAIGNS = 6;
    private static final int LAST_RING = 2;
    private static final int ALL_HUNDREDTHS = 100;
    private static final int MOST_NEEDS = 10;
    private static final int ALL_THOUSANDTHS = 1000;

    private static final int HOURS_OF_A_DAY = 24;
    private static final int MOST_HOURS = 100;

    private final int[] kindsOfVersion = new int[VERSIONS];
    private final Ways ways = new Ways();
    private final Device[] fleet = new Device[MOST_DEVICES];
    private final Campaign[] campaigns = new Campaign[MOST_CAMPAIGNS];
    private int deviceCount = 0;
    private int campaignCount = 0;
    // Only the hour of the day is ever asked of the clock, so that alone is kept, and it never overflows.
    private int hourOfDay = 0;

    /** Makes all rows at once, so that no place of them is ever null. */
    public Ringroll() {
        Arrays.fill(kindsOfVersion, ALL_KINDS);
        for (int d = 0; d < MOST_DEVICES; d++) {
            fleet[d] = new Device(d);
        }
        for (int c = 0; c < MOST_CAMPAIGNS; c++) {
            campaigns[c] = new Campaign(c);
        }
    }

    // ---- versions

    public int allow(int version, int kinds) throws IndexOutOfBoundsException, IllegalArgumentException {
        needVersion(version);
        needRange(kinds, 0, ALL_KINDS);
        int before = kindsOfVersion[version];
        kindsOfVersion[version] = kinds;
        return before;
    }

    public int setImage(int version, int size) throws IndexOutOfBoundsException, IllegalArgumentException {
        needVersion(version);
        needBytesOrNone(size);
        return ways.changeImage(version, size);
    }

    public int setDelta(int from, int to, int size) throws IndexOutOfBoundsException, IllegalArgumentException {
        needVersion(from);
        needVersion(to);
        if (from == to) {
            throw new IllegalArgumentException("a delta leads to another version");
        }
        needBytesOrNone(size);
        return ways.changeDelta(from, to, size);
    }

    public int size(int from, int to) throws IndexOutOfBoundsException {
        needVersion(from);
        needVersion(to);
        return ways.leastBytes(from, to);
    }

    public int sizeByWays(int from, int to) throws IndexOutOfBoundsException {
        needVersion(from);
        needVersion(to);
        return ways.leastBytesOfAllWays(from, to);
    }

    // ---- devices

    public int addDevice(int kind, int version) throws IndexOutOfBoundsException, IllegalStateException {
        if (kind < 0 || kind >= KINDS) {
            throw new IndexOutOfBoundsException("no such kind");
        }
        needVersion(version);
        if (deviceCount >= MOST_DEVICES) {
            throw new IllegalStateException("no room for another device");
        }
        if (!has(kindsOfVersion[version], kind)) {
            throw new IllegalStateException("the version may not run on the kind");
        }
        Device added = fleet[deviceCount];
        added.kind = kind;
        added.version = version;
        deviceCount++;
        return added.number;
    }

    public int charge(int device, int battery) throws IndexOutOfBoundsException, IllegalArgumentException {
        Device charged = deviceAt(device);
        needRange(battery, 0, FULL_BATTERY);
        int before = charged.battery;
        charged.battery = battery;
        return before;
    }

    public void setWindow(int device, int first, int last) throws IndexOutOfBoundsException, IllegalArgumentException {
        Device set = deviceAt(device);
        needRange(first, 0, HOURS_OF_A_DAY - 1);
        needRange(last, 0, HOURS_OF_A_DAY - 1);
        set.firstHour = first;
        set.lastHour = last;
    }

    public int report(int device, boolean isWell) throws IndexOutOfBoundsException, IllegalStateException {
        Device reporter = deviceAt(device);
        if (reporter.state != TRIAL) {
            throw new IllegalStateException("the device is not on trial");
        }
        Campaign campaign = campaignAt(reporter.campaign);
        if (isWell) {
            reporter.version = campaign.target;
        }
        reporter.state = IDLE;
        reporter.campaign = NONE;
        campaign.countReport(reporter, isWell);
        campaign.judgeRing();
        return reporter.version;
    }

    public int devices() {
        return deviceCount;
    }

    public int state(int device) throws IndexOutOfBoundsException {
        return deviceAt(device).state;
    }

    public int version(int device) throws IndexOutOfBoundsException {
        return deviceAt(device).version;
    }

    public int campaignOf(int device) throws IndexOutOfBoundsException {
        return deviceAt(device).campaign;
    }

    public int toGo(int device) throws IndexOutOfBoundsException {
        return deviceAt(device).bytesToGo;
    }

    public int battery(int device) throws IndexOutOfBoundsException {
        return deviceAt(device).battery;
    }

    // ---- campaigns

    public int begin(int target, int kinds, int versions, int replaced)
            throws IndexOutOfBoundsException, IllegalArgumentException, IllegalStateException {
        needVersion(target);
        if (replaced != NONE) {
            needCampaign(replaced);
        }
        needRange(kinds, 0, ALL_KINDS);
        needRange(versions, 0, ALL_VERSIONS);
        if (campaignCount >= MOST_CAMPAIGNS) {
            throw new IllegalStateException("no room for another campaign");
        }
        if (replaced != NONE) {
            campaignAt(replaced).isActive = false;
        }
        Campaign begun = campaigns[campaignCount];
        begun.target = target;
        begun.kinds = kinds;
        begun.versions = versions;
        campaignCount++;
        return begun.number;
    }

    public void setRules(int campaign, int first, int second, int needs, int thousandths)
            throws IndexOutOfBoundsException, IllegalArgumentException {
        Campaign ruled = campaignAt(campaign);
        needRange(first, 0, ALL_HUNDREDTHS);
        needRange(second, first, ALL_HUNDREDTHS);
        needRange(needs, 1, MOST_NEEDS);
        needRange(thousandths, 0, ALL_THOUSANDTHS);
        ruled.firstShare = first;
        ruled.secondShare = second;
        ruled.needs = needs;
        ruled.thousandths = thousandths;
    }

    public boolean toggle(int campaign) throws IndexOutOfBoundsException {
        Campaign toggled = campaignAt(campaign);
        toggled.isActive = !toggled.isActive;
        if (toggled.isActive) {
            toggled.beginRing(toggled.ring);
        }
        return toggled.isActive;
    }

    public boolean isActive(int campaign) throws IndexOutOfBoundsException {
        return campaignAt(campaign).isActive;
    }

    public int ring(int campaign) throws IndexOutOfBoundsException {
        return campaignAt(campaign).ring;
    }

    public int reports(int campaign) throws IndexOutOfBoundsException {
        return campaignAt(campaign).reports;
    }

    public int eligible(int campaign) throws IndexOutOfBoundsException {
        Campaign asked = campaignAt(campaign);
        int set = 0;
        for (int d = 0; d < deviceCount; d++) {
            if (mayTake(fleet[d], asked)) {
                set |= 1 << d;
            }
        }
        return set;
    }

    // ---- hours

    public int pass(int hours) throws IllegalArgumentException {
        needRange(hours, 1, MOST_HOURS);
        int trials = 0;
        for (int h = 0; h < hours; h++) {
            trials += passOneHour();
        }
        return trials;
    }

    /** Returns how many devices come on trial in the hour. */
    private int passOneHour() {
        int trials = 0;
        for (int d = 0; d < deviceCount; d++) {
            Device device = fleet[d];
            takeLowestCampaign(device);
            if (device.canLoad(hourOfDay)) {
                device.load();
                if (device.state == TRIAL) {
                    trials++;
                }
            }
        }
        hourOfDay = (hourOfDay + 1) % HOURS_OF_A_DAY;
        return trials;
    }

    private void takeLowestCampaign(Device device) {
        for (int c = 0; c < campaignCount; c++) {
            Campaign campaign = campaigns[c];
            if (mayTake(device, campaign)) {
                device.take(campaign, ways.leastBytes(device.version, campaign.target));
                return;
            }
        }
    }

    private boolean mayTake(Device device, Campaign campaign) {
        return device.state == IDLE
                && campaign.isFor(device)
                && has(kindsOfVersion[campaign.target], device.kind)
                && ways.leastBytes(device.version, campaign.target) != NONE;
    }

    private Device deviceAt(int device) {
        if (device < 0 || device >= deviceCount) {
            throw new IndexOutOfBoundsException("no such device");
        }
        return fleet[device];
    }

    private Campaign campaignAt(int campaign) {
        needCampaign(campaign);
        return campaigns[campaign];
    }

    private void needCampaign(int campaign) {
        if (campaign < 0 || campaign >= campaignCount) {
            throw new IndexOutOfBoundsException("no such campaign");
        }
    }

    private static void needVersion(int version) {
        if (version < 0 || version >= VERSIONS) {
            throw new IndexOutOfBoundsException("no such version");
        }
    }

    private static void needBytesOrNone(int bytes) {
        if (bytes != NONE) {
            needRange(bytes, 1, MOST_BYTES);
        }
    }

    private static void needRange(int value, int least, int most) {
        if (value < least || value > most) {
            throw new IllegalArgumentException("a value is out of range");
        }
    }

    private static boolean has(int set, int member) {
        return (set >> member & 1) == 1;
    }

    /** The images and deltas, and what they make of the ways between versions. */
    private static final class Ways {
        // More than any way's bytes (an image and seven deltas), and two of them still fit in an int.
        private static final int FAR = 1000000;

        private final int[] images = new int[VERSIONS];
        private final int[][] deltas = new int[VERSIONS][VERSIONS];
        // Kept between changes, because the hours ask for them far more often than a size changes.
        private final int[][] leastByDeltas = new int[VERSIONS][VERSIONS];
        private final int[] leastByImage = new int[VERSIONS];

        Ways() {
            Arrays.fill(images, NONE);
            for (int v = 0; v < VERSIONS; v++) {
                Arrays.fill(deltas[v], NONE);
            }
            measure();
        }

        int changeImage(int version, int bytes) {
            int before = images[version];
            images[version] = bytes;
            measure();
            return before;
        }

        int changeDelta(int from, int to, int bytes) {
            int before = deltas[from][to];
            deltas[from][to] = bytes;
            measure();
            return before;
        }

        int leastBytes(int from, int to) {
            if (from == to) {
                return 0;
            }
            return orNone(Math.min(leastByDeltas[from][to], leastByImage[to]));
        }

        int leastBytesOfAllWays(int from, int to) {
            if (from == to) {
                return 0;
            }
            int least = leastAlong(deltas, from, to, 1 << from, 0);
            for (int v = 0; v < VERSIONS; v++) {
                if (images[v] != NONE) {
                    least = Math.min(least, images[v] + leastAlong(deltas, v, to, 1 << v, 0));
                }
            }
            return orNone(least);
        }

        /** Goes on from a version along all deltas to versions that are not met yet; FAR if none leads to the end. */
        private static int leastAlong(int[][] deltas, int at, int to, int met, int depth) {
            if (at == to) {
                return 0;
            }
            if (depth >= VERSIONS) {
                return FAR;
            }
            int least = FAR;
            for (int next = 0; next < VERSIONS; next++) {
                if (!has(met, next) && deltas[at][next] != NONE) {
                    int rest = leastAlong(deltas, next, to, met | 1 << next, depth + 1);
                    least = Math.min(least, deltas[at][next] + rest);
                }
            }
            return least;
        }

        private void measure() {
            for (int from = 0; from < VERSIONS; from++) {
                for (int to = 0; to < VERSIONS; to++) {
                    leastByDeltas[from][to] = from == to ? 0 : orFar(deltas[from][to]);
                }
            }
            for (int via = 0; via < VERSIONS; via++) {
                measureVia(via);
            }
            for (int to = 0; to < VERSIONS; to++) {
                leastByImage[to] = FAR;
                for (int v = 0; v < VERSIONS; v++) {
                    leastByImage[to] = Math.min(leastByImage[to], orFar(images[v]) + leastByDeltas[v][to]);
                }
            }
        }

        private void measureVia(int via) {
            for (int from = 0; from < VERSIONS; from++) {
                for (int to = 0; to < VERSIONS; to++) {
                    int round = leastByDeltas[from][via] + leastByDeltas[via][to];
                    leastByDeltas[from][to] = Math.min(leastByDeltas[from][to], round);
                }
            }
        }

        private static int orFar(int bytes) {
            return bytes == NONE ? FAR : bytes;
        }

        private static int orNone(int bytes) {
            return bytes >= FAR ? NONE : bytes;
        }
    }

    private static final class Device {
        final int number;
        int kind = 0;
        int version = 0;
        int battery = FULL_BATTERY;
        int firstHour = 0;
        int lastHour = HOURS_OF_A_DAY - 1;
        int state = IDLE;
        int campaign = NONE;
        int bytesToGo = 0;

        Device(int number) {
            this.number = number;
        }

        void take(Campaign taken, int bytes) {
            state = LOADS;
            campaign = taken.number;
            bytesToGo = bytes;
        }

        boolean canLoad(int hour) {
            return state == LOADS && isInWindow(hour) && battery >= LEAST_BATTERY;
        }

        void load() {
            bytesToGo = Math.max(0, bytesToGo - BYTES_AN_HOUR);
            battery--;
            if (bytesToGo == 0) {
                state = TRIAL;
            }
        }

        private boolean isInWindow(int hour) {
            if (firstHour <= lastHour) {
                return firstHour <= hour && hour <= lastHour;
            }
            return firstHour <= hour || hour <= lastHour;
        }
    }

    private static final class Campaign {
        final int number;
        int target = 0;
        int kinds = 0;
        int versions = 0;
        int firstShare = 10;
        int secondShare = 50;
        int needs = 3;
        int thousandths = 200;
        boolean isActive = true;
        int ring = 0;
        int reports = 0;
        private int failures = 0;
        private int reporters = 0;

        Campaign(int number) {
            this.number = number;
        }

        /** All that the campaign itself asks of a device; the ways and the kinds of the target come on top. */
        boolean isFor(Device device) {
            return isActive
                    && has(kinds, device.kind)
                    && has(versions, device.version)
                    && device.version != target
                    && drawOf(device) < share()
                    && !has(reporters, device.number);
        }

        void countReport(Device reporter, boolean isWell) {
            reporters |= 1 << reporter.number;
            reports++;
            if (!isWell) {
                failures++;
            }
        }

        /** Stops the campaign or begins its next ring, if it is active and enough devices have reported. */
        void judgeRing() {
            if (!isActive || reports < needs) {
                return;
            }
            if (failures * ALL_THOUSANDTHS > reports * thousandths) {
                isActive = false;
            } else if (ring != LAST_RING) {
                beginRing(ring + 1);
            }
        }

        void beginRing(int begun) {
            ring = begun;
            reports = 0;
            failures = 0;
        }

        private int drawOf(Device device) {
            return (device.number * 37 + number * 11 + 13) % 100;
        }

        private int share() {
            if (ring == 0) {
                return firstShare;
            }
            return ring == 1 ? secondShare : ALL_HUNDREDTHS;
        }
    }
}
