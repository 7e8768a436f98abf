import java.util.Random;

/** Calls with any arguments in any state, far beyond 512: only the face's own exceptions come out. */
public final class StrangeCallsTest {
    private static final int RUNS = 60;
    private static final int CALLS = 4000;
    private static final int[] EXTREMES = {Integer.MIN_VALUE, Integer.MIN_VALUE + 1, -1000, -2, -1, 0, 1, 2, 4,
        9, 10, 12, 99, 100, 101, 300, 512, 900, 999, 1000, Integer.MAX_VALUE - 1, Integer.MAX_VALUE};
    private static final String TEXT = "gateway 999 9;device home 1 0 0;device guest 2 1 2;device iot 9 9 99;"
            + "allow any any 0 999;wake 1 2;quiet iot 1 4;limit 999;";

    private static Random random;

    private StrangeCallsTest() {
    }

    public static void main(String[] args) {
        for (int seed = 1; seed <= RUNS; seed++) {
            random = new Random(seed);
            HomeGateway x = new HomeGateway();
            for (int i = 0; i < CALLS; i++) {
                if (random.nextInt(300) == 0) {
                    Check.outcome(() -> Check.load(x, TEXT));
                }
                look("run " + seed + " call " + i, x);
            }
        }
        fullStore();
        Check.end();
    }

    private static int any() {
        switch (random.nextInt(4)) {
            case 0:
                return EXTREMES[random.nextInt(EXTREMES.length)];
            case 1:
                return random.nextInt();
            default:
                return random.nextInt(4);
        }
    }

    private static void look(String where, HomeGateway x) {
        int kind = random.nextInt(33);
        String outcome = Check.outcome(() -> kind < 16 ? query(x, kind) : call(x, kind));
        boolean fine = !outcome.startsWith("throws.") || outcome.equals("throws.IndexOutOfBoundsException")
                || outcome.equals("throws.IllegalArgumentException")
                || outcome.equals("throws.IllegalStateException");
        Check.yes(where + " of kind " + kind + " answered " + outcome, fine);
    }

    private static long query(HomeGateway x, int kind) {
        switch (kind) {
            case 0: return x.errorOffset();
            case 1: return x.deviceCount();
            case 2: return x.ruleCount();
            case 3: return x.clock();
            case 4: return x.state(any());
            case 5: return x.weight(any());
            case 6: return x.queueLength(any());
            case 7: return x.backlog(any());
            case 8: return x.virtualTime(any());
            case 9: return x.delivered(any());
            case 10: return x.longestDelay(any());
            case 11: return x.rejected();
            case 12: return x.proxied();
            case 13: return x.dropped();
            case 14: return x.isQuiet(any()) ? 1 : 0;
            default: return x.fairness();
        }
    }

    private static long call(HomeGateway x, int kind) {
        switch (kind) {
            case 16: return x.verdict(any(), any(), any());
            case 17: return x.matching(any(), any(), any());
            case 18: return x.isUseless(any()) ? 1 : 0;
            case 19: return x.openPorts(any(), any());
            case 20: return x.drainTime(any());
            case 21: return x.append(any(), any(), any(), any(), any());
            case 22: return x.tick(any());
            case 23: return x.sleep(any());
            case 24: return x.wake(any());
            case 25: return x.setWeight(any(), any());
            case 26: return x.addRule(random.nextBoolean(), any(), any(), any(), any());
            case 27: return x.removeRule(any());
            case 28: return x.moveRule(any(), any());
            case 29: return x.undo();
            case 30: return random.nextInt(20) == 0 ? x.load(any()) : x.checksum();
            default: return x.arrive(any(), any(), any(), any());
        }
    }

    private static void fullStore() {
        HomeGateway x = Check.loaded("gateway 999 9;device home 1 0 0;limit 999;");
        for (int i = 0; i < 2000; i++) {
            int call = i;
            String outcome = Check.outcome(() -> x.arrive(0, 0, call % 1000, 1));
            Check.no("arrive " + i + " answered " + outcome, outcome.startsWith("throws."));
            if (i % 100 == 99) {
                Check.no("tick after " + i, Check.outcome(() -> x.tick(1)).startsWith("throws."));
            }
        }
    }
}
