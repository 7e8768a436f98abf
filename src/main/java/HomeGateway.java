/**
 * A home gateway: packets for devices, rules with isolation of guests, fair sharing of the line
 * between devices, quiet hours, and a proxy that answers for devices that sleep and wakes them.
 *
 * <p>All rows are made once, with the object: no call makes anything but the exception it throws.
 */
public final class HomeGateway {
    public static final int SYNTAX_ERROR = -2;
    public static final int OUT_OF_RANGE = -3;
    public static final int TOO_MANY = -4;
    public static final int HOME = 0;
    public static final int GUEST = 1;
    public static final int IOT = 2;
    public static final int NET = 3;
    public static final int ANY = 4;
    public static final int AWAKE = 0;
    public static final int WAKING = 1;
    public static final int ASLEEP = 2;
    public static final int ALLOWED = 0;
    public static final int DENIED = 1;
    public static final int ISOLATED = 2;

    private static final int QUEUED = 0;
    private static final int REJECTED = 1;
    private static final int PROXIED = 2;
    private static final int DROPPED = 3;

    private static final int BUFFER_ROOM = 900;
    private static final int APPEND_BYTES = 20;
    private static final int MAX_DEVICES = 10;
    private static final int MAX_RULES = 12;
    private static final int MAX_WAKE_PORTS = 8;
    private static final int MAX_UNDO = 8;
    /** One packet a call at most, and an object is used for at most 512 calls. */
    private static final int MAX_PACKETS = 512;
    private static final int DEVICE_GROUPS = 3;
    private static final int PORTS = 1000;
    private static final int MAX_WEIGHT = 9;
    private static final int MAX_WAKE_DELAY = 9;
    private static final int MAX_PATIENCE = 99;
    private static final int MAX_SIZE = 99;
    private static final int MAX_RATE = 999;
    private static final int MAX_DAY = 100;
    private static final int MAX_LIMIT = 999;
    private static final int DEFAULT_LIMIT = 200;
    private static final int MAX_TICKS = 100;
    private static final int MAX_DRAIN = 300;
    private static final int MAX_CLOCK = 100000;
    /** Every weight from 1 to 9 divides it. */
    private static final int VIRTUAL_UNIT = 2520;

    private final byte[] buffer;
    private int bufferLength;
    private int lastErrorOffset;
    private final Gateway current;
    /** Where load builds before it knows of errors, and where drainTime plays the future. */
    private final Gateway draft;
    private final History history;
    private final SetupReader reader;

    public HomeGateway() {
        PacketStore packets = new PacketStore();
        buffer = new byte[BUFFER_ROOM];
        bufferLength = 0;
        lastErrorOffset = -1;
        current = new Gateway(packets);
        draft = new Gateway(packets);
        history = new History(packets);
        reader = new SetupReader(buffer, draft);
    }

    public int append(int w0, int w1, int w2, int w3, int w4) {
        if (bufferLength > BUFFER_ROOM - APPEND_BYTES) {
            return -1;
        }
        appendWord(w0);
        appendWord(w1);
        appendWord(w2);
        appendWord(w3);
        appendWord(w4);
        return bufferLength;
    }

    public int load(int length) throws IllegalArgumentException {
        if (length < 0 || length > bufferLength) {
            throw new IllegalArgumentException("length is not within the buffer");
        }
        int error = reader.readDraft(length);
        bufferLength = 0;
        lastErrorOffset = reader.errorOffset;
        if (error != 0) {
            return error;
        }
        history.save(current);
        current.copyFrom(draft);
        return current.deviceCount;
    }

    public int errorOffset() {
        return lastErrorOffset;
    }

    public int deviceCount() {
        return current.deviceCount;
    }

    public int ruleCount() {
        return current.rules.count;
    }

    public int clock() {
        return current.clock;
    }

    public int state(int device) throws IndexOutOfBoundsException {
        checkDevice(device);
        return current.devices[device].state;
    }

    public int weight(int device) throws IndexOutOfBoundsException {
        checkDevice(device);
        return current.devices[device].weight;
    }

    public int queueLength(int device) throws IndexOutOfBoundsException {
        checkDevice(device);
        return current.devices[device].queued;
    }

    public int backlog(int device) throws IndexOutOfBoundsException {
        checkDevice(device);
        return current.devices[device].backlog;
    }

    public long virtualTime(int device) throws IndexOutOfBoundsException {
        checkDevice(device);
        return current.devices[device].virtualTime;
    }

    public int delivered(int device) throws IndexOutOfBoundsException {
        checkDevice(device);
        return current.devices[device].delivered;
    }

    public int longestDelay(int device) throws IndexOutOfBoundsException {
        checkDevice(device);
        return current.devices[device].longestDelay;
    }

    public int rejected() {
        return current.rejected;
    }

    public int proxied() {
        return current.proxied;
    }

    public int dropped() {
        return current.dropped;
    }

    public boolean isQuiet(int group) throws IllegalArgumentException {
        if (group < 0 || group >= DEVICE_GROUPS) {
            throw new IllegalArgumentException("group is not 0 to 2");
        }
        return current.isQuietHour(group);
    }

    public int verdict(int from, int to, int port)
            throws IndexOutOfBoundsException, IllegalArgumentException {
        checkSender(from);
        checkDevice(to);
        checkPort(port);
        return current.judge(from, to, port);
    }

    public int matching(int from, int to, int port) throws IllegalArgumentException {
        if (from < 0 || from > NET || to < 0 || to >= DEVICE_GROUPS) {
            throw new IllegalArgumentException("no such group");
        }
        checkPort(port);
        return current.rules.firstMatch(from, to, port);
    }

    public boolean isUseless(int rule) throws IndexOutOfBoundsException {
        checkRule(rule);
        return current.rules.isCovered(rule);
    }

    public int openPorts(int from, int to) throws IndexOutOfBoundsException {
        checkSender(from);
        checkDevice(to);
        return current.countOpenPorts(from, to);
    }

    public int fairness() {
        return current.measureFairness();
    }

    public int drainTime(int limit) throws IllegalArgumentException {
        if (limit < 0 || limit > MAX_DRAIN) {
            throw new IllegalArgumentException("limit is not 0 to 300");
        }
        draft.copyFrom(current);
        for (int ticks = 0; ticks < limit; ticks++) {
            if (draft.isDrained()) {
                return ticks;
            }
            draft.passTick();
        }
        return draft.isDrained() ? limit : -1;
    }

    public int arrive(int from, int to, int port, int size)
            throws IndexOutOfBoundsException, IllegalArgumentException {
        checkSender(from);
        checkDevice(to);
        checkPort(port);
        if (size < 1 || size > MAX_SIZE) {
            throw new IllegalArgumentException("size is not 1 to 99");
        }
        history.save(current);
        return current.take(from, to, port, size);
    }

    public int tick(int ticks) throws IllegalArgumentException, IllegalStateException {
        if (ticks < 1 || ticks > MAX_TICKS) {
            throw new IllegalArgumentException("ticks is not 1 to 100");
        }
        checkGateway();
        if (current.clock > MAX_CLOCK - ticks) {
            throw new IllegalStateException("the clock would exceed 100000");
        }
        history.save(current);
        int packets = 0;
        for (int i = 0; i < ticks; i++) {
            packets += current.passTick();
        }
        return packets;
    }

    public int sleep(int device) throws IndexOutOfBoundsException, IllegalStateException {
        checkDevice(device);
        int before = current.devices[device].state;
        if (before == ASLEEP) {
            throw new IllegalStateException("the device is asleep");
        }
        history.save(current);
        current.devices[device].state = ASLEEP;
        return before;
    }

    public int wake(int device) throws IndexOutOfBoundsException, IllegalStateException {
        checkDevice(device);
        if (current.devices[device].state != ASLEEP) {
            throw new IllegalStateException("the device is not asleep");
        }
        history.save(current);
        current.devices[device].startWaking();
        return current.devices[device].wakeDelay;
    }

    public int setWeight(int device, int weight)
            throws IndexOutOfBoundsException, IllegalArgumentException {
        checkDevice(device);
        if (weight < 1 || weight > MAX_WEIGHT) {
            throw new IllegalArgumentException("weight is not 1 to 9");
        }
        history.save(current);
        int before = current.devices[device].weight;
        current.devices[device].weight = weight;
        return before;
    }

    public int addRule(boolean allow, int from, int to, int low, int high)
            throws IllegalArgumentException, IllegalStateException {
        if (from < 0 || from > ANY || to < 0 || to > ANY) {
            throw new IllegalArgumentException("no such selector");
        }
        if (low < 0 || high >= PORTS || high < low) {
            throw new IllegalArgumentException("no such range of ports");
        }
        checkGateway();
        if (current.rules.isFull()) {
            throw new IllegalStateException("there are 12 rules");
        }
        history.save(current);
        current.rules.putLast(allow, from, to, low, high);
        return current.rules.count - 1;
    }

    public int removeRule(int rule) throws IndexOutOfBoundsException {
        checkRule(rule);
        history.save(current);
        current.rules.takeOut(rule);
        return current.rules.count;
    }

    public int moveRule(int rule, int place) throws IndexOutOfBoundsException {
        checkRule(rule);
        checkRule(place);
        history.save(current);
        current.rules.shift(rule, place);
        return current.rules.count;
    }

    public int undo() {
        if (history.count == 0) {
            return -1;
        }
        history.bringBack(current);
        return history.count;
    }

    public long checksum() {
        return current.sumUp();
    }

    private void appendWord(int word) {
        for (int shift = 24; shift >= 0; shift -= 8) {
            if (bufferLength >= 0 && bufferLength < buffer.length) {
                buffer[bufferLength] = (byte) (word >>> shift);
                bufferLength++;
            }
        }
    }

    private void checkDevice(int device) {
        if (device < 0 || device >= current.deviceCount) {
            throw new IndexOutOfBoundsException("no such device");
        }
    }

    private void checkSender(int from) {
        if (from < -1 || from >= current.deviceCount) {
            throw new IndexOutOfBoundsException("no such sender");
        }
    }

    private void checkRule(int rule) {
        if (rule < 0 || rule >= current.rules.count) {
            throw new IndexOutOfBoundsException("no such rule");
        }
    }

    private static void checkPort(int port) {
        if (port < 0 || port >= PORTS) {
            throw new IllegalArgumentException("port is not 0 to 999");
        }
    }

    private void checkGateway() {
        if (!current.present) {
            throw new IllegalStateException("there is no gateway");
        }
    }

    /**
     * The packets that have ever been put into a queue, in the order of their coming; a queue is a
     * chain of them. None is ever taken out, so the queues that undo brings back and those that
     * drainTime plays with share this one store.
     */
    private static final class PacketStore {
        private final int[] sizes;
        private final int[] arrivals;
        private final int[] followers;
        private int count;

        PacketStore() {
            sizes = new int[MAX_PACKETS];
            arrivals = new int[MAX_PACKETS];
            followers = new int[MAX_PACKETS];
        }

        boolean isFull() {
            return count >= MAX_PACKETS;
        }

        private boolean holds(int packet) {
            return packet >= 0 && packet < count;
        }

        /** Answers the number of the new packet, or -1 if there is no room for it. */
        int put(int size, int arrival) {
            if (isFull()) {
                return -1;
            }
            sizes[count] = size;
            arrivals[count] = arrival;
            count++;
            return count - 1;
        }

        void link(int packet, int follower) {
            if (holds(packet)) {
                followers[packet] = follower;
            }
        }

        int sizeOf(int packet) {
            return holds(packet) ? sizes[packet] : 0;
        }

        int arrivalOf(int packet) {
            return holds(packet) ? arrivals[packet] : 0;
        }

        int followerOf(int packet) {
            return holds(packet) ? followers[packet] : -1;
        }
    }

    /** A device with its queue; first and last mean nothing while the queue is empty. */
    private static final class Device {
        int group;
        int weight;
        int wakeDelay;
        int patience;
        int state;
        int waitLeft;
        int idle;
        long virtualTime;
        int delivered;
        int longestDelay;
        int first;
        int last;
        int queued;
        int backlog;
        boolean servedInTick;

        Device() {
            weight = 1;
            longestDelay = -1;
        }

        void setUp(int newGroup, int newWeight, int newWakeDelay, int newPatience) {
            group = newGroup;
            weight = newWeight;
            wakeDelay = newWakeDelay;
            patience = newPatience;
            state = AWAKE;
            waitLeft = 0;
            idle = 0;
            virtualTime = 0;
            delivered = 0;
            longestDelay = -1;
            first = -1;
            last = -1;
            queued = 0;
            backlog = 0;
            servedInTick = false;
        }

        void copyFrom(Device other) {
            group = other.group;
            weight = other.weight;
            wakeDelay = other.wakeDelay;
            patience = other.patience;
            state = other.state;
            waitLeft = other.waitLeft;
            idle = other.idle;
            virtualTime = other.virtualTime;
            delivered = other.delivered;
            longestDelay = other.longestDelay;
            first = other.first;
            last = other.last;
            queued = other.queued;
            backlog = other.backlog;
            servedInTick = other.servedInTick;
        }

        void startWaking() {
            state = WAKING;
            waitLeft = wakeDelay;
        }

        void beginTick() {
            servedInTick = false;
            if (state != WAKING) {
                return;
            }
            if (waitLeft == 0) {
                state = AWAKE;
                idle = 0;
            } else {
                waitLeft--;
            }
        }

        void endTick() {
            if (state != AWAKE) {
                return;
            }
            if (servedInTick || queued > 0) {
                idle = 0;
                return;
            }
            idle++;
            if (idle == patience) {
                state = ASLEEP;
            }
        }

        void enqueue(PacketStore packets, int packet) {
            if (queued == 0) {
                first = packet;
            } else {
                packets.link(last, packet);
            }
            last = packet;
            queued++;
            backlog += packets.sizeOf(packet);
        }

        void serveFirst(PacketStore packets, int clock) {
            int size = packets.sizeOf(first);
            longestDelay = Math.max(longestDelay, clock - packets.arrivalOf(first));
            first = packets.followerOf(first);
            queued--;
            backlog -= size;
            delivered += size;
            if (weight > 0) {
                virtualTime += VIRTUAL_UNIT * size / weight;
            }
            servedInTick = true;
        }
    }

    private static final class Rule {
        boolean allow;
        int from;
        int to;
        int low;
        int high;

        Rule() {
            allow = false;
        }

        void setUp(boolean newAllow, int newFrom, int newTo, int newLow, int newHigh) {
            allow = newAllow;
            from = newFrom;
            to = newTo;
            low = newLow;
            high = newHigh;
        }

        void copyFrom(Rule other) {
            setUp(other.allow, other.from, other.to, other.low, other.high);
        }

        boolean matchesGroups(int sender, int receiver) {
            return (from == ANY || from == sender) && (to == ANY || to == receiver);
        }

        boolean matches(int sender, int receiver, int port) {
            return low <= port && port <= high && matchesGroups(sender, receiver);
        }
    }

    /** The rules in their order; the places from count on hold rules that wait for use. */
    private static final class RuleList {
        private final Rule[] rules;
        int count;

        RuleList() {
            rules = new Rule[MAX_RULES];
            for (int i = 0; i < MAX_RULES; i++) {
                rules[i] = new Rule();
            }
        }

        void copyFrom(RuleList other) {
            count = other.count;
            for (int i = 0; i < count; i++) {
                rules[i].copyFrom(other.rules[i]);
            }
        }

        boolean isFull() {
            return count >= MAX_RULES;
        }

        void putLast(boolean allow, int from, int to, int low, int high) {
            if (count >= 0 && count < MAX_RULES) {
                rules[count].setUp(allow, from, to, low, high);
                count++;
            }
        }

        void takeOut(int rule) {
            if (rule >= 0 && rule < count) {
                shift(rule, count - 1);
                count--;
            }
        }

        void shift(int rule, int place) {
            if (rule < 0 || rule >= count || place < 0 || place >= count) {
                return;
            }
            Rule moved = rules[rule];
            for (int i = rule; i < place; i++) {
                rules[i] = rules[i + 1];
            }
            for (int i = rule; i > place; i--) {
                rules[i] = rules[i - 1];
            }
            rules[place] = moved;
        }

        int firstMatch(int sender, int receiver, int port) {
            for (int i = 0; i < count; i++) {
                if (rules[i].matches(sender, receiver, port)) {
                    return i;
                }
            }
            return -1;
        }

        boolean allows(int rule) {
            return rule >= 0 && rule < count && rules[rule].allow;
        }

        /** The first port above this one at which a rule's range begins or has ended. */
        int nextEdge(int port) {
            int next = PORTS;
            for (int i = 0; i < count; i++) {
                if (rules[i].low > port) {
                    next = Math.min(next, rules[i].low);
                }
                if (rules[i].high + 1 > port) {
                    next = Math.min(next, rules[i].high + 1);
                }
            }
            return next;
        }

        /** Whether earlier rules leave the rule nothing; true if it matches nothing at all. */
        boolean isCovered(int rule) {
            if (rule < 0 || rule >= count) {
                return false;
            }
            for (int sender = 0; sender <= NET; sender++) {
                for (int receiver = 0; receiver < DEVICE_GROUPS; receiver++) {
                    if (rules[rule].matchesGroups(sender, receiver)
                            && !isCoveredFor(rule, sender, receiver)) {
                        return false;
                    }
                }
            }
            return true;
        }

        /**
         * The smallest port that no earlier rule matches is the rule's lowest one, or the one just
         * behind an earlier rule's range: no other port needs a look.
         */
        private boolean isCoveredFor(int rule, int sender, int receiver) {
            if (rule < 0 || rule >= count) {
                return false;
            }
            int low = rules[rule].low;
            int high = rules[rule].high;
            if (!matchesEarlier(rule, sender, receiver, low)) {
                return false;
            }
            for (int i = 0; i < rule; i++) {
                int port = rules[i].high + 1;
                if (low <= port && port <= high && !matchesEarlier(rule, sender, receiver, port)) {
                    return false;
                }
            }
            return true;
        }

        private boolean matchesEarlier(int rule, int sender, int receiver, int port) {
            int match = firstMatch(sender, receiver, port);
            return match >= 0 && match < rule;
        }

        long addTo(long sum) {
            long result = sum;
            for (int i = 0; i < count; i++) {
                Rule rule = rules[i];
                result = 31 * result + (rule.allow ? 1 : 0);
                result = 31 * result + rule.from;
                result = 31 * result + rule.to;
                result = 31 * result + rule.low;
                result = 31 * result + rule.high;
            }
            return result;
        }
    }

    /** All that load sets, that the changing methods change and that undo brings back. */
    private static final class Gateway {
        private final PacketStore packets;
        boolean present;
        int rate;
        int dayLength;
        int limit;
        final Device[] devices;
        int deviceCount;
        final RuleList rules;
        private final int[] wakePorts;
        int wakePortCount;
        private final int[] quietFrom;
        private final int[] quietTo;
        int clock;
        int rejected;
        int proxied;
        int dropped;

        Gateway(PacketStore sharedPackets) {
            packets = sharedPackets;
            devices = new Device[MAX_DEVICES];
            for (int i = 0; i < MAX_DEVICES; i++) {
                devices[i] = new Device();
            }
            rules = new RuleList();
            wakePorts = new int[MAX_WAKE_PORTS];
            quietFrom = new int[DEVICE_GROUPS];
            quietTo = new int[DEVICE_GROUPS];
        }

        void copyFrom(Gateway other) {
            present = other.present;
            rate = other.rate;
            dayLength = other.dayLength;
            limit = other.limit;
            deviceCount = other.deviceCount;
            for (int i = 0; i < deviceCount; i++) {
                devices[i].copyFrom(other.devices[i]);
            }
            rules.copyFrom(other.rules);
            wakePortCount = other.wakePortCount;
            for (int i = 0; i < wakePortCount; i++) {
                wakePorts[i] = other.wakePorts[i];
            }
            for (int i = 0; i < DEVICE_GROUPS; i++) {
                quietFrom[i] = other.quietFrom[i];
                quietTo[i] = other.quietTo[i];
            }
            clock = other.clock;
            rejected = other.rejected;
            proxied = other.proxied;
            dropped = other.dropped;
        }

        void startAnew() {
            present = true;
            rate = 1;
            dayLength = 1;
            limit = DEFAULT_LIMIT;
            deviceCount = 0;
            rules.count = 0;
            wakePortCount = 0;
            for (int i = 0; i < DEVICE_GROUPS; i++) {
                setQuiet(i, 0, 0);
            }
            clock = 0;
            rejected = 0;
            proxied = 0;
            dropped = 0;
        }

        void addDevice(int group, int weight, int wakeDelay, int patience) {
            if (deviceCount >= 0 && deviceCount < MAX_DEVICES) {
                devices[deviceCount].setUp(group, weight, wakeDelay, patience);
                deviceCount++;
            }
        }

        void addWakePort(int port) {
            if (wakePortCount >= 0 && wakePortCount < MAX_WAKE_PORTS) {
                wakePorts[wakePortCount] = port;
                wakePortCount++;
            }
        }

        boolean isWakePort(int port) {
            for (int i = 0; i < wakePortCount; i++) {
                if (wakePorts[i] == port) {
                    return true;
                }
            }
            return false;
        }

        /** Equal hours make no hour quiet: so it is for a group without a statement. */
        void setQuiet(int group, int from, int to) {
            if (group >= 0 && group < DEVICE_GROUPS) {
                quietFrom[group] = from;
                quietTo[group] = to;
            }
        }

        boolean isQuietHour(int group) {
            if (group < 0 || group >= DEVICE_GROUPS || dayLength <= 0) {
                return false;
            }
            int hour = clock % dayLength;
            int from = quietFrom[group];
            int to = quietTo[group];
            if (to < from) {
                return hour >= from || hour < to;
            }
            return from <= hour && hour < to;
        }

        private boolean hasDevice(int device) {
            return device >= 0 && device < deviceCount;
        }

        private int groupOf(int device) {
            return hasDevice(device) ? devices[device].group : NET;
        }

        private boolean isIsolated(int from, int to) {
            if (groupOf(from) != GUEST) {
                return false;
            }
            int receiver = groupOf(to);
            return receiver == HOME || (receiver == GUEST && from != to);
        }

        private boolean isOpen(int sender, int receiver, int port) {
            int rule = rules.firstMatch(sender, receiver, port);
            return rule < 0 ? sender != NET : rules.allows(rule);
        }

        int judge(int from, int to, int port) {
            if (isIsolated(from, to)) {
                return ISOLATED;
            }
            return isOpen(groupOf(from), groupOf(to), port) ? ALLOWED : DENIED;
        }

        /** Between two edges all ports fare alike, and a rule has two edges. */
        int countOpenPorts(int from, int to) {
            if (isIsolated(from, to)) {
                return 0;
            }
            int open = 0;
            int port = 0;
            for (int i = 0; i <= 2 * MAX_RULES && port < PORTS; i++) {
                int next = rules.nextEdge(port);
                if (isOpen(groupOf(from), groupOf(to), port)) {
                    open += next - port;
                }
                port = next;
            }
            return open;
        }

        int measureFairness() {
            float sum = 0.0f;
            float squares = 0.0f;
            for (int i = 0; i < deviceCount; i++) {
                if (devices[i].weight > 0) {
                    float share = 1.0f * devices[i].delivered / devices[i].weight;
                    sum += share;
                    squares += share * share;
                }
            }
            if (deviceCount > 0 && squares > 0.0f) {
                return (int) (1000.0f * sum * sum / (deviceCount * squares));
            }
            return 1000;
        }

        int take(int from, int to, int port, int size) {
            if (judge(from, to, port) != ALLOWED) {
                rejected++;
                return REJECTED;
            }
            Device receiver = devices[to];
            if (receiver.state == ASLEEP && !isWakePort(port)) {
                proxied++;
                return PROXIED;
            }
            if (receiver.backlog + size > limit || packets.isFull()) {
                dropped++;
                return DROPPED;
            }
            if (receiver.queued == 0) {
                receiver.virtualTime = Math.max(receiver.virtualTime, leastVirtualTime());
            }
            receiver.enqueue(packets, packets.put(size, clock));
            if (receiver.state == ASLEEP) {
                receiver.startWaking();
            }
            return QUEUED;
        }

        /** Of the devices with packets; 0, which no virtual time is below, if there are none. */
        private long leastVirtualTime() {
            long least = 0;
            boolean found = false;
            for (int i = 0; i < deviceCount; i++) {
                if (devices[i].queued > 0 && (!found || devices[i].virtualTime < least)) {
                    least = devices[i].virtualTime;
                    found = true;
                }
            }
            return least;
        }

        boolean isDrained() {
            for (int i = 0; i < deviceCount; i++) {
                if (devices[i].queued > 0) {
                    return false;
                }
            }
            return true;
        }

        int passTick() {
            for (int i = 0; i < deviceCount; i++) {
                devices[i].beginTick();
            }
            int served = serveLine();
            for (int i = 0; i < deviceCount; i++) {
                devices[i].endTick();
            }
            clock++;
            return served;
        }

        /** No packet is smaller than 1, so a budget serves no more packets than its size. */
        private int serveLine() {
            int budget = rate;
            for (int served = 0; served < rate; served++) {
                int next = nextToServe();
                if (!hasDevice(next)) {
                    return served;
                }
                int size = packets.sizeOf(devices[next].first);
                if (size > budget) {
                    return served;
                }
                devices[next].serveFirst(packets, clock);
                budget -= size;
            }
            return rate;
        }

        private int nextToServe() {
            int best = -1;
            for (int i = 0; i < deviceCount; i++) {
                if (canBeServed(devices[i])
                        && (best < 0 || devices[i].virtualTime < devices[best].virtualTime)) {
                    best = i;
                }
            }
            return best;
        }

        private boolean canBeServed(Device device) {
            return device.queued > 0 && device.state == AWAKE && !isQuietHour(device.group);
        }

        long sumUp() {
            long sum = clock;
            sum = 31 * sum + rejected;
            sum = 31 * sum + proxied;
            sum = 31 * sum + dropped;
            for (int i = 0; i < deviceCount; i++) {
                Device device = devices[i];
                sum = 31 * sum + device.state;
                sum = 31 * sum + device.weight;
                sum = 31 * sum + device.backlog;
                sum = 31 * sum + device.virtualTime;
                sum = 31 * sum + device.delivered;
            }
            return rules.addTo(sum);
        }
    }

    /** The gateways before the latest changes, in a ring: the newest pushes out the oldest. */
    private static final class History {
        private final Gateway[] saved;
        private int next;
        int count;

        History(PacketStore packets) {
            saved = new Gateway[MAX_UNDO];
            for (int i = 0; i < MAX_UNDO; i++) {
                saved[i] = new Gateway(packets);
            }
        }

        void save(Gateway gateway) {
            if (next < 0 || next >= MAX_UNDO) {
                return;
            }
            saved[next].copyFrom(gateway);
            next = next + 1 < MAX_UNDO ? next + 1 : 0;
            count = Math.min(count + 1, MAX_UNDO);
        }

        void bringBack(Gateway gateway) {
            int latest = next > 0 ? next - 1 : MAX_UNDO - 1;
            if (count <= 0 || latest >= MAX_UNDO) {
                return;
            }
            gateway.copyFrom(saved[latest]);
            next = latest;
            count--;
        }
    }

    /**
     * Reads a setup text from left to right. Every error is found at the token where its offset
     * lies, so the first one found is the one with the smallest offset.
     */
    private static final class SetupReader {
        private static final int TOO_LARGE = 10000;

        private final byte[] text;
        private int length;
        private int position;
        private int tokenStart;
        private int number;
        private final Gateway target;
        private boolean wakeSeen;
        private boolean limitSeen;
        private final boolean[] quietSeen;
        private int error;
        int errorOffset;

        SetupReader(byte[] sharedText, Gateway sharedTarget) {
            text = sharedText;
            target = sharedTarget;
            quietSeen = new boolean[DEVICE_GROUPS];
            errorOffset = -1;
        }

        /** Answers 0, or the code of the first error. */
        int readDraft(int newLength) {
            target.startAnew();
            length = Math.min(newLength, text.length);
            position = 0;
            wakeSeen = false;
            limitSeen = false;
            for (int i = 0; i < DEVICE_GROUPS; i++) {
                quietSeen[i] = false;
            }
            error = 0;
            errorOffset = -1;
            boolean good = readHead() && readSemicolon();
            for (int i = 0; i < BUFFER_ROOM && good && !isAtEnd(); i++) {
                good = readStatement() && readSemicolon();
            }
            return error;
        }

        private boolean fail(int code) {
            error = code;
            errorOffset = tokenStart;
            return false;
        }

        private int byteAt(int offset) {
            return offset >= 0 && offset < length && offset < text.length ? text[offset] & 255 : 0;
        }

        private boolean isLetterAt(int offset) {
            return byteAt(offset) >= 'a' && byteAt(offset) <= 'z';
        }

        private boolean isDigitAt(int offset) {
            return byteAt(offset) >= '0' && byteAt(offset) <= '9';
        }

        private void startToken() {
            while (position < length && byteAt(position) == ' ') {
                position++;
            }
            tokenStart = position;
        }

        private boolean isAtEnd() {
            startToken();
            return position >= length;
        }

        private boolean readSemicolon() {
            startToken();
            if (byteAt(position) != ';') {
                return fail(SYNTAX_ERROR);
            }
            position++;
            return true;
        }

        private void readWord() {
            startToken();
            while (position < length && isLetterAt(position)) {
                position++;
            }
        }

        private boolean isWord(String word) {
            if (position - tokenStart != word.length()) {
                return false;
            }
            for (int i = 0; i < word.length(); i++) {
                if (byteAt(tokenStart + i) != word.charAt(i)) {
                    return false;
                }
            }
            return true;
        }

        private boolean readNumber(int low, int high) {
            startToken();
            if (!isDigitAt(position)) {
                return fail(SYNTAX_ERROR);
            }
            number = 0;
            while (position < length && isDigitAt(position)) {
                number = Math.min(10 * number + byteAt(position) - '0', TOO_LARGE);
                position++;
            }
            if (number < low || number > high) {
                return fail(OUT_OF_RANGE);
            }
            return true;
        }

        /** Answers the selector that the next word names, or -1 if it names none. */
        private int readSelector() {
            readWord();
            if (isWord("home")) {
                return HOME;
            }
            if (isWord("guest")) {
                return GUEST;
            }
            if (isWord("iot")) {
                return IOT;
            }
            if (isWord("net")) {
                return NET;
            }
            return isWord("any") ? ANY : -1;
        }

        private boolean readHead() {
            readWord();
            if (!isWord("gateway")) {
                return fail(SYNTAX_ERROR);
            }
            if (!readNumber(1, MAX_RATE)) {
                return false;
            }
            target.rate = number;
            if (!readNumber(1, MAX_DAY)) {
                return false;
            }
            target.dayLength = number;
            return true;
        }

        private boolean readStatement() {
            readWord();
            if (isWord("device")) {
                return readDevice();
            }
            if (isWord("allow")) {
                return readRule(true);
            }
            if (isWord("deny")) {
                return readRule(false);
            }
            if (isWord("wake")) {
                return readWakePorts();
            }
            if (isWord("quiet")) {
                return readQuiet();
            }
            return isWord("limit") ? readLimit() : fail(SYNTAX_ERROR);
        }

        private boolean readDevice() {
            if (target.deviceCount >= MAX_DEVICES) {
                return fail(TOO_MANY);
            }
            int group = readSelector();
            if (group < 0 || group >= DEVICE_GROUPS) {
                return fail(SYNTAX_ERROR);
            }
            if (!readNumber(1, MAX_WEIGHT)) {
                return false;
            }
            int weight = number;
            if (!readNumber(0, MAX_WAKE_DELAY)) {
                return false;
            }
            int wakeDelay = number;
            if (!readNumber(0, MAX_PATIENCE)) {
                return false;
            }
            target.addDevice(group, weight, wakeDelay, number);
            return true;
        }

        private boolean readRule(boolean allow) {
            if (target.rules.isFull()) {
                return fail(TOO_MANY);
            }
            int from = readSelector();
            if (from < 0) {
                return fail(SYNTAX_ERROR);
            }
            int to = readSelector();
            if (to < 0) {
                return fail(SYNTAX_ERROR);
            }
            if (!readNumber(0, PORTS - 1)) {
                return false;
            }
            int low = number;
            if (!readNumber(low, PORTS - 1)) {
                return false;
            }
            target.rules.putLast(allow, from, to, low, number);
            return true;
        }

        private boolean readWakePorts() {
            if (wakeSeen) {
                return fail(SYNTAX_ERROR);
            }
            wakeSeen = true;
            boolean good = readWakePort();
            for (int i = 0; i < MAX_WAKE_PORTS && good && isNumberNext(); i++) {
                good = readWakePort();
            }
            return good;
        }

        private boolean isNumberNext() {
            startToken();
            return isDigitAt(position);
        }

        private boolean readWakePort() {
            if (!readNumber(0, PORTS - 1)) {
                return false;
            }
            if (target.isWakePort(number)) {
                return fail(OUT_OF_RANGE);
            }
            if (target.wakePortCount >= MAX_WAKE_PORTS) {
                return fail(TOO_MANY);
            }
            target.addWakePort(number);
            return true;
        }

        private boolean readQuiet() {
            int group = readSelector();
            if (group < 0 || group >= DEVICE_GROUPS || quietSeen[group]) {
                return fail(SYNTAX_ERROR);
            }
            quietSeen[group] = true;
            if (!readNumber(0, target.dayLength - 1)) {
                return false;
            }
            int from = number;
            if (!readNumber(0, target.dayLength - 1)) {
                return false;
            }
            target.setQuiet(group, from, number);
            return true;
        }

        private boolean readLimit() {
            if (limitSeen) {
                return fail(SYNTAX_ERROR);
            }
            limitSeen = true;
            if (!readNumber(1, MAX_LIMIT)) {
                return false;
            }
            target.limit = number;
            return true;
        }
    }
}
