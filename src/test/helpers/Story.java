/**
 * All that an object holds, told by asking it, undoing it to its beginning, playing it on and loading
 * what is in its buffer. A refused call must leave the story as it is without the call.
 */
final class Story {
    /** Makes an object and brings it to a certain state, the same one each time. */
    interface Scene {
        HomeGateway make();
    }

    /** A call of an object; a boolean counts 1 or 0. */
    interface Call {
        long on(HomeGateway x);
    }

    private static final int SPACES = 0x20202020;
    /** Few enough for ten devices: an object answers no more than 512 calls. */
    private static final int TICKS = 10;

    private Story() {
    }

    static void outside(String what, Scene scene, Call call) {
        refused(what, scene, call, "throws.IndexOutOfBoundsException");
    }

    static void argument(String what, Scene scene, Call call) {
        refused(what, scene, call, "throws.IllegalArgumentException");
    }

    static void state(String what, Scene scene, Call call) {
        refused(what, scene, call, "throws.IllegalStateException");
    }

    /** The call answers this or throws that, and nothing changes. */
    static void refused(String what, Scene scene, Call call, String answer) {
        Check.same(what, outcome(scene.make(), call), answer);
        Check.same(what + ": the story afterwards", told(after(scene, call)), told(scene));
    }

    /** The call answers this, and nothing changes but the input buffer and the error offset. */
    static void leavesGateway(String what, Scene scene, Call call, long answer) {
        Check.same(what, outcome(scene.make(), call), String.valueOf(answer));
        Scene asked = after(scene, call);
        Check.same(what + ": the past", past(asked.make()), past(scene.make()));
        Check.same(what + ": the future", futures(asked), futures(scene));
    }

    static String outcome(HomeGateway x, Call call) {
        return Check.outcome(() -> call.on(x));
    }

    static Scene after(Scene scene, Call call) {
        return () -> {
            HomeGateway x = scene.make();
            outcome(x, call);
            return x;
        };
    }

    static String told(Scene scene) {
        return past(scene.make()) + " | " + futures(scene) + " | " + input(scene.make());
    }

    /** What can be asked without a change, but for the error offset. */
    static String now(HomeGateway x) {
        int devices = x.deviceCount();
        StringBuilder text = new StringBuilder();
        text.append(x.checksum()).append(' ').append(devices).append(' ').append(x.ruleCount());
        for (int i = 0; i < devices; i++) {
            text.append(' ').append(x.queueLength(i)).append(' ').append(x.longestDelay(i));
        }
        text.append(x.isQuiet(0) ? " q" : " -").append(x.isQuiet(1) ? 'q' : '-').append(x.isQuiet(2) ? 'q' : '-');
        return text.append(' ').append(x.drainTime(50)).toString();
    }

    static String past(HomeGateway x) {
        StringBuilder text = new StringBuilder(now(x));
        for (int i = 0; i < 10; i++) {
            text.append(" undo ").append(x.undo()).append(": ").append(now(x));
        }
        return text.toString();
    }

    /** What comes if nobody does anything, and what if many packets come. */
    static String futures(Scene scene) {
        return ticks(scene.make()) + " | " + packets(scene.make());
    }

    /** Shows all that waits for its time: queues, waking and idle devices, quiet hours. */
    private static String ticks(HomeGateway x) {
        StringBuilder text = new StringBuilder();
        for (int i = 0; i < TICKS; i++) {
            text.append(outcome(x, y -> y.tick(1))).append(": ").append(now(x)).append(' ');
        }
        return text.toString();
    }

    /** Shows the limit, the wake ports and the rules too, and in what order packets leave. */
    private static String packets(HomeGateway x) {
        int devices = x.deviceCount();
        StringBuilder text = new StringBuilder();
        for (int to = 0; to < devices; to++) {
            int receiver = to;
            for (int port : new int[] {1, 9, 85}) {
                text.append(outcome(x, y -> y.arrive(0, receiver, port, 3))).append(' ');
                text.append(outcome(x, y -> y.arrive(-1, receiver, port, 29))).append(' ');
                text.append(outcome(x, y -> y.arrive(0, receiver, port, 1))).append(' ');
            }
        }
        return text + ticks(x);
    }

    static String input(HomeGateway x) {
        int offset = x.errorOffset();
        int longer = x.append(SPACES, SPACES, SPACES, SPACES, SPACES);
        int length = longer < 0 ? 900 : longer - 20;
        String answer = outcome(x, y -> y.load(length));
        return offset + " " + length + " " + answer + " " + x.errorOffset() + " " + now(x);
    }
}
