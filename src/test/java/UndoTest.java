/** Promises 33 and 34: undo of every kind of change, and the checksum. */
public final class UndoTest {
    private static final String HOUSE = "gateway 5 6;device home 2 1 9;device guest 1 0 3;device iot 3 2 0;"
            + "allow net any 80 90;deny iot home 0 999;wake 9;quiet guest 2 0;limit 40;";

    private UndoTest() {
    }

    public static void main(String[] args) {
        nothingToUndo();
        everyKind();
        atMostEight();
        changesAfterUndo();
        undoOfLoad();
        undoLeavesBufferAndOffset();
        undoBringsQueuesBack();
        undoBringsIdleAndWaitBack();
        throwingCallsAreNoChanges();
        checksum();
        Check.end();
    }

    private static void nothingToUndo() {
        HomeGateway x = new HomeGateway();
        Check.same("33 none", x.undo(), -1);
        Check.load(x, HOUSE);
        Check.same("33 one", x.undo(), 0);
        Check.same("33 none", x.undo(), -1);
        Check.same("33 no gateway", x.deviceCount() + x.ruleCount(), 0);
        Check.state("33 no gateway", () -> x.tick(1));
    }

    private static HomeGateway busy() {
        HomeGateway x = Check.loaded(HOUSE);
        x.arrive(0, 0, 1, 5);
        x.arrive(0, 2, 1, 3);
        x.arrive(-1, 0, 80, 2);
        x.tick(1);
        x.sleep(1);
        return x;
    }

    private static void everyKind() {
        undone("arrive, queued", x -> x.arrive(0, 2, 5, 4), 0);
        undone("arrive, rejected", x -> x.arrive(2, 0, 5, 4), 1);
        undone("arrive, proxied", x -> x.arrive(0, 1, 5, 4), 2);
        undone("arrive, dropped", x -> x.arrive(0, 0, 5, 40), 3);
        undone("arrive, waking", x -> x.arrive(0, 1, 9, 4), 0);
        undone("tick", x -> x.tick(7), 2);
        undone("sleep", x -> x.sleep(0), 0);
        undone("wake", x -> x.wake(1), 0);
        undone("setWeight", x -> x.setWeight(0, 9), 2);
        undone("addRule", x -> x.addRule(true, 4, 4, 1, 2), 2);
        undone("removeRule", x -> x.removeRule(0), 1);
        undone("moveRule", x -> x.moveRule(0, 1), 2);
        undone("load", x -> Check.load(x, "gateway 9 9;device home 9 9 9;limit 9;wake 1;"), 1);
    }

    /** A change of an object. */
    private interface Change {
        int make(HomeGateway x);
    }

    private static void undone(String kind, Change change, int answer) {
        HomeGateway x = busy();
        String before = all(x);
        Check.same("33 " + kind, change.make(x), answer);
        Check.no("33 " + kind + " changes something", all(x).equals(before));
        Check.same("33 undo of " + kind, x.undo(), 6);
        Check.same("33 after undo of " + kind, all(x), before);
        Check.same("33 again " + kind, change.make(x), answer);
        x.undo();
        Check.same("33 after undo of " + kind, all(x), before);
        Check.same("33 as it goes on after undo of " + kind, future(x), future(busy()));
    }

    private static String all(HomeGateway x) {
        StringBuilder text = new StringBuilder();
        text.append(x.checksum()).append(' ').append(x.deviceCount()).append(' ').append(x.ruleCount());
        for (int i = 0; i < x.deviceCount(); i++) {
            text.append(' ').append(x.queueLength(i)).append(' ').append(x.longestDelay(i));
        }
        return text.append(' ').append(x.drainTime(300)).toString();
    }

    private static String future(HomeGateway x) {
        StringBuilder text = new StringBuilder(all(x));
        x.arrive(0, 0, 1, 4);
        x.arrive(0, 1, 9, 2);
        for (int i = 0; i < 20; i++) {
            text.append(' ').append(x.tick(1)).append(' ').append(all(x)).append(x.isQuiet(1));
        }
        return text.toString();
    }

    private static void atMostEight() {
        HomeGateway x = Check.loaded(HOUSE);
        for (int i = 0; i < 12; i++) {
            x.tick(1);
        }
        for (int i = 7; i >= 0; i--) {
            Check.same("33 undo", x.undo(), i);
            Check.same("33 clock", x.clock(), i + 4);
        }
        Check.same("33 no ninth", x.undo(), -1);
        Check.same("33 clock", x.clock(), 4);
        HomeGateway y = Check.loaded(HOUSE);
        for (int i = 0; i < 7; i++) {
            y.tick(1);
        }
        Check.same("33 eight with the load", y.undo(), 7);
    }

    private static void changesAfterUndo() {
        HomeGateway x = Check.loaded(HOUSE);
        for (int i = 0; i < 20; i++) {
            x.tick(1);
        }
        Check.same("33", x.undo(), 7);
        Check.same("33", x.undo(), 6);
        Check.same("33", x.undo(), 5);
        x.tick(10);
        Check.same("7", x.clock(), 27);
        x.setWeight(0, 2);
        Check.same("33 a change without effect counts", x.undo(), 6);
        Check.same("33", x.undo(), 5);
        Check.same("7", x.clock(), 17);
        for (int i = 4; i >= 0; i--) {
            Check.same("33", x.undo(), i);
        }
        Check.same("7", x.clock(), 12);
        Check.same("33", x.undo(), -1);
    }

    private static void undoOfLoad() {
        HomeGateway x = busy();
        String before = future(busy());
        Check.load(x, "gateway 1 1;device guest 1 0 1;quiet iot 0 0;limit 1;");
        x.arrive(0, 0, 1, 1);
        x.tick(3);
        Check.same("33", x.undo(), 7);
        Check.same("33", x.undo(), 6);
        Check.same("33", x.undo(), 5);
        Check.same("33 the old house goes on", future(x), before);
    }

    private static void undoLeavesBufferAndOffset() {
        HomeGateway x = new HomeGateway();
        Check.load(x, HOUSE);
        Check.load(x, "gateway 5;");
        Check.append(x, "gateway 1 1;");
        Check.same("33", x.undo(), 0);
        Check.same("33 error offset", x.errorOffset(), 9);
        Check.same("33 buffer", x.load(12), 0);
        Check.same("33", x.errorOffset(), -1);
        Check.same("33", x.undo(), 0);
        Check.same("33 error offset", x.errorOffset(), -1);
        Check.argument("33 the buffer stays empty", () -> x.load(1));
    }

    private static void undoBringsQueuesBack() {
        HomeGateway x = Check.loaded("gateway 3 6;device home 1 0 0;device iot 1 0 0;");
        x.arrive(0, 0, 1, 1);
        x.arrive(0, 0, 1, 2);
        x.arrive(0, 1, 1, 3);
        x.tick(3);
        Check.same("10", x.queueLength(0) + x.queueLength(1), 0);
        x.undo();
        x.undo();
        x.arrive(0, 0, 1, 3);
        Check.same("33 the first two", x.tick(1), 2);
        Check.same("13", x.delivered(0), 3);
        Check.same("33 the new one", x.tick(1), 1);
        Check.same("13", x.delivered(0), 6);
        Check.same("13", x.delivered(1), 0);
    }

    private static void undoBringsIdleAndWaitBack() {
        HomeGateway x = Check.loaded("gateway 3 6;device home 1 3 4;");
        x.tick(3);
        x.tick(1);
        Check.same("8", x.state(0), HomeGateway.ASLEEP);
        x.undo();
        x.tick(1);
        Check.same("33 idle", x.state(0), HomeGateway.ASLEEP);
        x.wake(0);
        x.tick(3);
        x.tick(1);
        x.undo();
        x.tick(1);
        Check.same("33 wait", x.state(0), HomeGateway.AWAKE);
    }

    private static void throwingCallsAreNoChanges() {
        HomeGateway x = Check.loaded(HOUSE);
        Check.outside("33", () -> x.arrive(0, 3, 1, 1));
        Check.argument("33", () -> x.arrive(0, 0, 1, 0));
        Check.argument("33", () -> x.tick(0));
        Check.state("33", () -> x.wake(0));
        Check.argument("33", () -> x.setWeight(0, 0));
        Check.argument("33", () -> x.addRule(true, 0, 0, 1, 0));
        Check.outside("33", () -> x.removeRule(2));
        Check.outside("33", () -> x.moveRule(0, 2));
        Check.argument("33", () -> x.load(1));
        Check.same("33 only the load", x.undo(), 0);
    }

    private static long sum(long... numbers) {
        long sum = 0;
        for (long number : numbers) {
            sum = 31 * sum + number;
        }
        return sum;
    }

    private static void checksum() {
        HomeGateway x = Check.loaded("gateway 5 6;device home 2 1 9;device iot 3 2 0;allow net any 80 90;"
                + "deny iot home 0 999;");
        Check.same("34", x.checksum(), sum(0, 0, 0, 0, 0, 2, 0, 0, 0, 0, 3, 0, 0, 0,
                1, 3, 4, 80, 90, 0, 2, 0, 0, 999));
        x.arrive(0, 0, 1, 4);
        x.arrive(0, 0, 1, 6);
        x.arrive(-1, 0, 1, 6);
        x.sleep(1);
        x.arrive(0, 1, 1, 6);
        x.arrive(0, 1, 1, 6);
        for (int i = 0; i < 3; i++) {
            x.arrive(0, 0, 1, 99);
        }
        x.tick(1);
        Check.same("34", x.checksum(), sum(1, 1, 2, 2, 0, 2, 105, 5040, 4, 2, 3, 0, 0, 0,
                1, 3, 4, 80, 90, 0, 2, 0, 0, 999));
    }
}
