import java.util.ArrayList;
import java.util.Collections;
import java.util.List;
import java.util.Random;

/** Random runs of 512 calls, always the same ones: the program must answer as the model does. */
public final class ModelTest {
    private static final int RUNS = 600;
    private static final int CALLS = 512;
    private static final String[] GROUPS = {"home", "guest", "iot", "net", "any"};
    private static final String[] SPOILERS = {" ", ";", "7", "1000", "x", "net", "wake 3;", "limit 4;",
        "quiet home 0 0;", "device iot 1 0 0;", "\t", "00", "deny any any 1 1;", "any", "0"};

    private final Random random;
    private final String run;
    private final HomeGateway program = new HomeGateway();
    private final Model model = new Model();
    private int calls = 0;

    private ModelTest(int seed) {
        random = new Random(seed);
        run = "run " + seed;
    }

    public static void main(String[] args) {
        for (int seed = 1; seed <= RUNS; seed++) {
            new ModelTest(seed).play();
        }
        for (int seed = 1; seed <= RUNS; seed++) {
            new ModelTest(-seed).playTexts();
        }
        Check.end();
    }

    private void both(String call, Check.Call ours, Check.Call theirs) {
        if (calls < CALLS) {
            calls++;
            Check.same(run + " call " + calls + " " + call, Check.outcome(ours), Check.outcome(theirs));
        }
    }

    /** From low to high, and now and then a little outside. */
    private int near(int low, int high) {
        int slack = random.nextInt(12) == 0 ? 1 : 0;
        return low - slack + random.nextInt(high - low + 1 + 2 * slack);
    }

    private int device() {
        return near(0, Math.max(0, model.deviceCount() - 1));
    }

    private int sender() {
        return near(-1, Math.max(0, model.deviceCount() - 1));
    }

    private int rule() {
        return near(0, Math.max(0, model.ruleCount() - 1));
    }

    /** Few enough to meet the rules' and wake ports' edges often. */
    private int port() {
        return random.nextInt(3) > 0 ? near(0, 12) : near(988, 999);
    }

    private static long flag(boolean answer) {
        return answer ? 1 : 0;
    }

    private void play() {
        both("undo()", program::undo, model::undo);
        if (random.nextInt(4) > 0) {
            load(text(), 0);
        }
        int kinds = random.nextBoolean() ? 100 : 60;
        for (int i = 0; i < 2 * CALLS && calls < CALLS; i++) {
            int kind = random.nextInt(kinds);
            if (kind < 24) {
                arrive();
            } else if (kind < 32) {
                tick();
            } else if (kind < 44) {
                change(kind);
            } else if (kind < 45) {
                load(text(), random.nextInt(2));
            } else if (kind < 52) {
                both("undo()", program::undo, model::undo);
            } else if (kind < 60) {
                both("checksum()", program::checksum, model::checksum);
            } else {
                ask(kind);
            }
        }
    }

    private void playTexts() {
        while (calls < CALLS) {
            load(text(), 1 + random.nextInt(2));
            both("checksum()", program::checksum, model::checksum);
            both("tick(1)", () -> program.tick(1), () -> model.tick(1));
        }
    }

    private void arrive() {
        int from = sender();
        int to = device();
        int port = port();
        int size = random.nextBoolean() ? near(1, 9) : near(1, 99);
        both("arrive(" + from + ", " + to + ", " + port + ", " + size + ")",
                () -> program.arrive(from, to, port, size), () -> model.arrive(from, to, port, size));
    }

    private void tick() {
        int ticks = random.nextInt(8) == 0 ? near(1, 100) : near(1, 3);
        both("tick(" + ticks + ")", () -> program.tick(ticks), () -> model.tick(ticks));
    }

    private void change(int kind) {
        int device = device();
        int rule = rule();
        if (kind < 34) {
            both("sleep(" + device + ")", () -> program.sleep(device), () -> model.sleep(device));
        } else if (kind < 37) {
            both("wake(" + device + ")", () -> program.wake(device), () -> model.wake(device));
        } else if (kind < 39) {
            int weight = near(1, 9);
            both("setWeight(" + device + ", " + weight + ")", () -> program.setWeight(device, weight),
                    () -> model.setWeight(device, weight));
        } else if (kind < 41) {
            addRule();
        } else if (kind < 42) {
            both("removeRule(" + rule + ")", () -> program.removeRule(rule), () -> model.removeRule(rule));
        } else {
            int place = rule();
            both("moveRule(" + rule + ", " + place + ")", () -> program.moveRule(rule, place),
                    () -> model.moveRule(rule, place));
        }
    }

    private void addRule() {
        boolean allow = random.nextInt(3) > 0;
        int from = near(0, 4);
        int to = near(0, 4);
        int low = port();
        int high = random.nextInt(8) == 0 ? port() : Math.min(999 + random.nextInt(2), low + random.nextInt(6));
        both("addRule(" + allow + ", " + from + ", " + to + ", " + low + ", " + high + ")",
                () -> program.addRule(allow, from, to, low, high),
                () -> model.addRule(allow, from, to, low, high));
    }

    private void ask(int kind) {
        int device = device();
        int from = sender();
        int port = port();
        switch (kind % 20) {
            case 0 -> both("state", () -> program.state(device), () -> model.state(device));
            case 1 -> both("weight", () -> program.weight(device), () -> model.weight(device));
            case 2 -> both("queueLength", () -> program.queueLength(device), () -> model.queueLength(device));
            case 3 -> both("backlog", () -> program.backlog(device), () -> model.backlog(device));
            case 4 -> both("virtualTime", () -> program.virtualTime(device), () -> model.virtualTime(device));
            case 5 -> both("delivered", () -> program.delivered(device), () -> model.delivered(device));
            case 6 -> both("longestDelay", () -> program.longestDelay(device), () -> model.longestDelay(device));
            case 7 -> both("rejected", program::rejected, model::rejected);
            case 8 -> both("proxied", program::proxied, model::proxied);
            case 9 -> both("dropped", program::dropped, model::dropped);
            case 10 -> both("clock", program::clock, model::clock);
            case 11 -> both("deviceCount", program::deviceCount, model::deviceCount);
            case 12 -> both("ruleCount", program::ruleCount, model::ruleCount);
            case 13 -> both("fairness", program::fairness, model::fairness);
            case 14 -> both("errorOffset", program::errorOffset, model::errorOffset);
            case 15 -> {
                int group = near(0, 2);
                both("isQuiet", () -> flag(program.isQuiet(group)), () -> flag(model.isQuiet(group)));
            }
            case 16 -> {
                int limit = near(0, 300);
                both("drainTime", () -> program.drainTime(limit), () -> model.drainTime(limit));
            }
            case 17 -> both("verdict", () -> program.verdict(from, device, port),
                    () -> model.verdict(from, device, port));
            case 18 -> {
                int sender = near(0, 3);
                int receiver = near(0, 2);
                both("matching", () -> program.matching(sender, receiver, port),
                        () -> model.matching(sender, receiver, port));
            }
            default -> {
                int rule = rule();
                both("isUseless", () -> flag(program.isUseless(rule)), () -> flag(model.isUseless(rule)));
                both("openPorts", () -> program.openPorts(from, device), () -> model.openPorts(from, device));
            }
        }
    }

    private void load(String good, int spoilers) {
        String text = good;
        for (int i = 0; i < spoilers; i++) {
            text = spoiled(text);
        }
        String all = text;
        for (int start = 0; start < all.length(); start += 20) {
            int[] w = new int[5];
            for (int i = 0; i < 5; i++) {
                w[i] = Check.word(all, start, i);
            }
            both("append", () -> program.append(w[0], w[1], w[2], w[3], w[4]), () -> model.append(w));
        }
        int length = random.nextInt(20) == 0 ? near(-1, all.length() + 20) : all.length();
        both("load(" + length + ") of " + all, () -> program.load(length), () -> model.load(length));
        both("errorOffset()", program::errorOffset, model::errorOffset);
    }

    private String spoiled(String text) {
        if (text.isEmpty()) {
            return " ";
        }
        int at = random.nextInt(text.length());
        String spoiler = SPOILERS[random.nextInt(SPOILERS.length)];
        return switch (random.nextInt(5)) {
            case 0 -> text.substring(0, at) + text.substring(at + 1);
            case 1 -> text.substring(0, at) + (char) random.nextInt(256) + text.substring(at + 1);
            case 2 -> text.substring(0, at);
            case 3 -> text + spoiler;
            default -> text.substring(0, at) + spoiler + text.substring(at);
        };
    }

    private String number(int low, int high) {
        String zeros = random.nextInt(30) == 0 ? "00" : "";
        return " " + zeros + (low + random.nextInt(high - low + 1));
    }

    private String text() {
        List<String> statements = new ArrayList<>();
        int day = 1 + random.nextInt(random.nextBoolean() ? 6 : 100);
        int devices = random.nextInt(6) == 0 ? 10 : random.nextInt(6);
        for (int i = 0; i < devices; i++) {
            statements.add("device " + GROUPS[random.nextInt(3)] + number(1, 9)
                    + number(0, random.nextInt(4) == 0 ? 9 : 2)
                    + number(0, random.nextInt(3) == 0 ? 99 : 3));
        }
        int rules = random.nextInt(6) == 0 ? 12 : random.nextInt(6);
        for (int i = 0; i < rules; i++) {
            int low = Math.max(0, Math.min(999, port()));
            statements.add((random.nextInt(3) > 0 ? "allow " : "deny ") + GROUPS[random.nextInt(5)] + " "
                    + GROUPS[random.nextInt(5)] + " " + low + number(low, Math.min(999, low + 5)));
        }
        if (random.nextBoolean()) {
            statements.add("wake" + wakePorts());
        }
        for (int group = 0; group < 3; group++) {
            if (random.nextInt(3) == 0) {
                statements.add("quiet " + GROUPS[group] + number(0, day - 1) + number(0, day - 1));
            }
        }
        if (random.nextBoolean()) {
            statements.add("limit" + number(1, random.nextBoolean() ? 60 : 999));
        }
        Collections.shuffle(statements, random);
        StringBuilder text = new StringBuilder("gateway");
        text.append(number(1, random.nextBoolean() ? 40 : 999)).append(' ').append(day).append(';');
        for (String statement : statements) {
            text.append(" ".repeat(random.nextInt(10) == 0 ? 2 : 0)).append(statement).append(';');
        }
        return text.toString();
    }

    private String wakePorts() {
        StringBuilder ports = new StringBuilder();
        int count = random.nextInt(3) == 0 ? 8 : 1 + random.nextInt(4);
        int port = random.nextInt(3);
        for (int i = 0; i < count; i++) {
            ports.append(' ').append(port);
            port += 1 + random.nextInt(4);
        }
        return ports.toString();
    }
}
