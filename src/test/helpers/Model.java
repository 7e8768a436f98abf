import java.io.ByteArrayOutputStream;
import java.nio.charset.StandardCharsets;
import java.util.ArrayDeque;
import java.util.ArrayList;
import java.util.Deque;
import java.util.List;
import java.util.regex.Matcher;
import java.util.regex.Pattern;

/**
 * The document once more, as naively as can be: every port is tried, every change keeps a whole copy.
 * It shares no code and no idea with the program, so that the two are unlikely to err alike.
 */
final class Model {
    /** An error of the setup text. */
    private static final class SetupError extends Exception {
        private static final long serialVersionUID = 1L;
        final int code;
        final int offset;

        SetupError(int code, int offset) {
            this.code = code;
            this.offset = offset;
        }
    }

    private record Packet(int size, int came) {
    }

    private record Rule(boolean allow, int from, int to, int low, int high) {
        boolean matches(int sender, int receiver, int port) {
            return (from == 4 || from == sender) && (to == 4 || to == receiver) && port >= low && port <= high;
        }
    }

    private static final class Device {
        int group;
        int weight;
        int delay;
        int patience;
        int state;
        int wait;
        int idle;
        int delivered;
        int longest = -1;
        long time;
        boolean touched;
        Deque<Packet> queue = new ArrayDeque<>();

        Device copy() {
            Device copy = new Device();
            copy.group = group;
            copy.weight = weight;
            copy.delay = delay;
            copy.patience = patience;
            copy.state = state;
            copy.wait = wait;
            copy.idle = idle;
            copy.delivered = delivered;
            copy.longest = longest;
            copy.time = time;
            copy.queue = new ArrayDeque<>(queue);
            return copy;
        }

        int backlog() {
            return queue.stream().mapToInt(Packet::size).sum();
        }
    }

    private static final class World {
        boolean there;
        int rate;
        int day;
        int limit = 200;
        int clock;
        int rejected;
        int proxied;
        int dropped;
        List<Device> devices = new ArrayList<>();
        List<Rule> rules = new ArrayList<>();
        List<Integer> wakePorts = new ArrayList<>();
        int[][] quiet = new int[3][];
        boolean limitGiven;

        World copy() {
            World copy = new World();
            copy.there = there;
            copy.rate = rate;
            copy.day = day;
            copy.limit = limit;
            copy.clock = clock;
            copy.rejected = rejected;
            copy.proxied = proxied;
            copy.dropped = dropped;
            for (Device device : devices) {
                copy.devices.add(device.copy());
            }
            copy.rules = new ArrayList<>(rules);
            copy.wakePorts = wakePorts;
            copy.quiet = quiet;
            return copy;
        }
    }

    private World world = new World();
    private final List<World> past = new ArrayList<>();
    private ByteArrayOutputStream buffer = new ByteArrayOutputStream();
    private int offset = -1;

    // ---- setup text

    private String text;
    private final Matcher token = Pattern.compile(" *([a-z]+|[0-9]+|.|$)", Pattern.DOTALL).matcher("");

    int append(int... words) {
        if (buffer.size() + 20 > 900) {
            return -1;
        }
        for (int word : words) {
            for (int i = 3; i >= 0; i--) {
                buffer.write(word >> 8 * i);
            }
        }
        return buffer.size();
    }

    int load(int length) {
        if (length < 0 || length > buffer.size()) {
            throw new IllegalArgumentException();
        }
        text = new String(buffer.toByteArray(), StandardCharsets.ISO_8859_1).substring(0, length);
        buffer = new ByteArrayOutputStream();
        try {
            World loaded = parse();
            offset = -1;
            change();
            world = loaded;
            return world.devices.size();
        } catch (SetupError error) {
            offset = error.offset;
            return error.code;
        }
    }

    private World parse() throws SetupError {
        World w = new World();
        w.there = true;
        token.reset(text);
        expect("gateway");
        w.rate = number(1, 999);
        w.day = number(1, 100);
        expect(";");
        while (!next().isEmpty()) {
            statement(w, token.group(1), token.start(1));
            expect(";");
        }
        return w;
    }

    private String next() {
        token.find();
        return token.group(1);
    }

    private void expect(String want) throws SetupError {
        if (!next().equals(want)) {
            throw new SetupError(-2, token.start(1));
        }
    }

    private int number(int low, int high) throws SetupError {
        if (!next().matches("[0-9]+")) {
            throw new SetupError(-2, token.start(1));
        }
        String digits = token.group(1).replaceFirst("^0+", "");
        int value = digits.isEmpty() ? 0 : digits.length() > 8 ? 99999999 : Integer.parseInt(digits);
        if (value < low || value > high) {
            throw new SetupError(-3, token.start(1));
        }
        return value;
    }

    private int name(String... names) throws SetupError {
        int index = List.of(names).indexOf(next());
        if (index < 0) {
            throw new SetupError(-2, token.start(1));
        }
        return index;
    }

    private void statement(World w, String word, int start) throws SetupError {
        switch (word) {
            case "device" -> {
                if (w.devices.size() == 10) {
                    throw new SetupError(-4, start);
                }
                Device device = new Device();
                device.group = name("home", "guest", "iot");
                device.weight = number(1, 9);
                device.delay = number(0, 9);
                device.patience = number(0, 99);
                w.devices.add(device);
            }
            case "allow", "deny" -> {
                if (w.rules.size() == 12) {
                    throw new SetupError(-4, start);
                }
                int from = name("home", "guest", "iot", "net", "any");
                int to = name("home", "guest", "iot", "net", "any");
                int low = number(0, 999);
                w.rules.add(new Rule(word.equals("allow"), from, to, low, number(low, 999)));
            }
            case "wake" -> wakeStatement(w, start);
            case "quiet" -> {
                int group = name("home", "guest", "iot");
                if (w.quiet[group] != null) {
                    throw new SetupError(-2, token.start(1));
                }
                w.quiet[group] = new int[] {number(0, w.day - 1), number(0, w.day - 1)};
            }
            case "limit" -> {
                if (w.limitGiven) {
                    throw new SetupError(-2, start);
                }
                w.limitGiven = true;
                w.limit = number(1, 999);
            }
            default -> throw new SetupError(-2, start);
        }
    }

    private void wakeStatement(World w, int start) throws SetupError {
        if (!w.wakePorts.isEmpty()) {
            throw new SetupError(-2, start);
        }
        do {
            int port = number(0, 999);
            if (w.wakePorts.contains(port)) {
                throw new SetupError(-3, token.start(1));
            }
            if (w.wakePorts.size() == 8) {
                throw new SetupError(-4, token.start(1));
            }
            w.wakePorts.add(port);
        } while (text.substring(token.end()).matches("(?s) *[0-9].*"));
    }

    // ---- queries

    private Device device(int index) {
        if (index < 0 || index >= world.devices.size()) {
            throw new IndexOutOfBoundsException();
        }
        return world.devices.get(index);
    }

    private void port(int port) {
        if (port < 0 || port > 999) {
            throw new IllegalArgumentException();
        }
    }

    private void rule(int rule) {
        if (rule < 0 || rule >= world.rules.size()) {
            throw new IndexOutOfBoundsException();
        }
    }

    int errorOffset() {
        return offset;
    }

    int deviceCount() {
        return world.devices.size();
    }

    int ruleCount() {
        return world.rules.size();
    }

    int clock() {
        return world.clock;
    }

    int state(int i) {
        return device(i).state;
    }

    int weight(int i) {
        return device(i).weight;
    }

    int queueLength(int i) {
        return device(i).queue.size();
    }

    int backlog(int i) {
        return device(i).backlog();
    }

    long virtualTime(int i) {
        return device(i).time;
    }

    int delivered(int i) {
        return device(i).delivered;
    }

    int longestDelay(int i) {
        return device(i).longest;
    }

    int rejected() {
        return world.rejected;
    }

    int proxied() {
        return world.proxied;
    }

    int dropped() {
        return world.dropped;
    }

    boolean isQuiet(int group) {
        if (group < 0 || group > 2) {
            throw new IllegalArgumentException();
        }
        return world.there && quiet(world, group);
    }

    private static boolean quiet(World w, int group) {
        int[] hours = w.quiet[group];
        if (hours == null) {
            return false;
        }
        int hour = w.clock % w.day;
        boolean between = hours[0] <= hour && hour < hours[1];
        boolean around = hours[1] < hours[0] && (hour >= hours[0] || hour < hours[1]);
        return between || around;
    }

    int verdict(int from, int to, int port) {
        int sender = from == -1 ? 3 : device(from).group;
        int receiver = device(to).group;
        port(port);
        if (sender == 1 && (receiver == 0 || receiver == 1 && from != to)) {
            return 2;
        }
        for (Rule rule : world.rules) {
            if (rule.matches(sender, receiver, port)) {
                return rule.allow ? 0 : 1;
            }
        }
        return sender == 3 ? 1 : 0;
    }

    int matching(int from, int to, int port) {
        if (from < 0 || from > 3 || to < 0 || to > 2) {
            throw new IllegalArgumentException();
        }
        port(port);
        return before(world.rules.size(), from, to, port);
    }

    private int before(int end, int from, int to, int port) {
        for (int i = 0; i < end; i++) {
            if (world.rules.get(i).matches(from, to, port)) {
                return i;
            }
        }
        return -1;
    }

    boolean isUseless(int index) {
        rule(index);
        for (int from = 0; from < 4; from++) {
            for (int to = 0; to < 3; to++) {
                for (int port = 0; port < 1000; port++) {
                    if (world.rules.get(index).matches(from, to, port) && before(index, from, to, port) < 0) {
                        return false;
                    }
                }
            }
        }
        return true;
    }

    int openPorts(int from, int to) {
        int open = 0;
        for (int port = 0; port < 1000; port++) {
            open += verdict(from, to, port) == 0 ? 1 : 0;
        }
        return open;
    }

    int fairness() {
        float s = 0.0f;
        float q = 0.0f;
        int all = 0;
        for (Device device : world.devices) {
            float x = 1.0f * device.delivered / device.weight;
            s = s + x;
            q = q + x * x;
            all += device.delivered;
        }
        return all == 0 ? 1000 : (int) (1000.0f * s * s / (world.devices.size() * q));
    }

    int drainTime(int limit) {
        if (limit < 0 || limit > 300) {
            throw new IllegalArgumentException();
        }
        World future = world.copy();
        for (int ticks = 0; ticks <= limit; ticks++) {
            if (future.devices.stream().allMatch(device -> device.queue.isEmpty())) {
                return ticks;
            }
            tick(future);
        }
        return -1;
    }

    long checksum() {
        List<Long> numbers = new ArrayList<>();
        for (int n : new int[] {world.clock, world.rejected, world.proxied, world.dropped}) {
            numbers.add((long) n);
        }
        for (Device d : world.devices) {
            numbers.addAll(List.of((long) d.state, (long) d.weight, (long) d.backlog(), d.time,
                    (long) d.delivered));
        }
        for (Rule r : world.rules) {
            numbers.addAll(List.of(r.allow ? 1L : 0L, (long) r.from, (long) r.to, (long) r.low,
                    (long) r.high));
        }
        return numbers.stream().reduce(0L, (sum, n) -> 31 * sum + n);
    }

    // ---- changes

    private void change() {
        past.add(world.copy());
        if (past.size() > 8) {
            past.remove(0);
        }
    }

    int undo() {
        if (past.isEmpty()) {
            return -1;
        }
        world = past.remove(past.size() - 1);
        return past.size();
    }

    int arrive(int from, int to, int port, int size) {
        int verdict = verdict(from, to, port);
        if (size < 1 || size > 99) {
            throw new IllegalArgumentException();
        }
        change();
        Device receiver = world.devices.get(to);
        if (verdict != 0) {
            world.rejected++;
            return 1;
        }
        if (receiver.state == 2 && !world.wakePorts.contains(port)) {
            world.proxied++;
            return 2;
        }
        if (receiver.backlog() + size > world.limit) {
            world.dropped++;
            return 3;
        }
        if (receiver.queue.isEmpty()) {
            long least = Long.MAX_VALUE;
            for (Device other : world.devices) {
                if (other != receiver && !other.queue.isEmpty()) {
                    least = Math.min(least, other.time);
                }
            }
            if (least != Long.MAX_VALUE && least > receiver.time) {
                receiver.time = least;
            }
        }
        receiver.queue.addLast(new Packet(size, world.clock));
        if (receiver.state == 2) {
            receiver.state = 1;
            receiver.wait = receiver.delay;
        }
        return 0;
    }

    int tick(int ticks) {
        if (ticks < 1 || ticks > 100) {
            throw new IllegalArgumentException();
        }
        if (!world.there || world.clock + ticks > 100000) {
            throw new IllegalStateException();
        }
        change();
        int packets = 0;
        for (int i = 0; i < ticks; i++) {
            packets += tick(world);
        }
        return packets;
    }

    private static int tick(World w) {
        int packets = 0;
        for (Device d : w.devices) {
            d.touched = false;
            if (d.state == 1 && d.wait == 0) {
                d.state = 0;
                d.idle = 0;
            } else if (d.state == 1) {
                d.wait--;
            }
        }
        int budget = w.rate;
        while (true) {
            Device chosen = null;
            for (Device d : w.devices) {
                boolean can = d.state == 0 && !d.queue.isEmpty() && !quiet(w, d.group);
                if (can && (chosen == null || d.time < chosen.time)) {
                    chosen = d;
                }
            }
            if (chosen == null || chosen.queue.getFirst().size() > budget) {
                break;
            }
            Packet packet = chosen.queue.removeFirst();
            budget -= packet.size();
            chosen.time += 2520L * packet.size() / chosen.weight;
            chosen.delivered += packet.size();
            chosen.longest = Math.max(chosen.longest, w.clock - packet.came());
            chosen.touched = true;
            packets++;
        }
        for (Device d : w.devices) {
            if (d.state != 0) {
                continue;
            }
            d.idle = d.touched || !d.queue.isEmpty() ? 0 : d.idle + 1;
            if (d.idle > 0 && d.idle == d.patience) {
                d.state = 2;
            }
        }
        w.clock++;
        return packets;
    }

    int sleep(int i) {
        int before = device(i).state;
        if (before == 2) {
            throw new IllegalStateException();
        }
        change();
        device(i).state = 2;
        return before;
    }

    int wake(int i) {
        if (device(i).state != 2) {
            throw new IllegalStateException();
        }
        change();
        device(i).state = 1;
        device(i).wait = device(i).delay;
        return device(i).delay;
    }

    int setWeight(int i, int weight) {
        int before = device(i).weight;
        if (weight < 1 || weight > 9) {
            throw new IllegalArgumentException();
        }
        change();
        device(i).weight = weight;
        return before;
    }

    int addRule(boolean allow, int from, int to, int low, int high) {
        if (from < 0 || from > 4 || to < 0 || to > 4 || high < low) {
            throw new IllegalArgumentException();
        }
        port(low);
        port(high);
        if (!world.there || world.rules.size() == 12) {
            throw new IllegalStateException();
        }
        change();
        world.rules.add(new Rule(allow, from, to, low, high));
        return world.rules.size() - 1;
    }

    int removeRule(int index) {
        rule(index);
        change();
        world.rules.remove(index);
        return world.rules.size();
    }

    int moveRule(int index, int place) {
        rule(index);
        rule(place);
        change();
        world.rules.add(place, world.rules.remove(index));
        return world.rules.size();
    }
}
