/**
 * All that an object holds, told by asking it, undoing it to its beginning, playing it on and loading
 * what is in its buffer. A refused call must leave the story as it is without the call.
 */
final class Story {
    /** Makes an object and brings it to a certain state, the same one each time. */
    interface Scene {
        HomeGateway make();
    }

    /** A call of an object; a boolean counts 1 or 0. */
    interface Call {
        long on(HomeGateway x);
    }

    private static final int SPACES = 0x20202020;
    private static final int TICKS = 14;

    private Story() {
    }

    static void outside(String what, Scene scene, Call call) {
        refused(what, scene, call, "throws.IndexOutOfBoundsException");
    }

    static void argument(String what, Scene scene, Call call) {
        refused(what, scene, call, "throws.IllegalArgumentException");
    }

    static void state(String what, Scene scene, Call call) {
        refused(what, scene, call, "throws.IllegalStateException");
    }

    /** The call answers this or throws that, and nothing changes. */
    static void refused(String what, Scene scene, Call call, String answer) {
        Check.same(what, outcome(scene.make(), call), answer);
        Check.same(what + ": the story afterwards", told(after(scene, call)), told(scene));
    }

    /** The call answers this, and nothing changes but the input buffer and the error offset. */
    static void leavesGateway(String what, Scene scene, Call call, long answer) {
        Check.same(what, outcome(scene.make(), call), String.valueOf(answer));
        Scene asked = after(scene, call);
        Check.same(what + ": the past", past(asked.make()), past(scene.make()));
        Check.same(what + ": the future", future(asked.make()), future(scene.make()));
    }

    static String outcome(HomeGateway x, Call call) {
        return Check.outcome(() -> call.on(x));
    }

    static Scene after(Scene scene, Call call) {
        return () -> {
            HomeGateway x = scene.make();
            outcome(x, call);
            return x;
        };
    }

    static String told(Scene scene) {
        return past(scene.make()) + " | " + future(scene.make()) + " | " + input(scene.make());
    }

    /** What can be asked without a change, but for the error offset. */
    static String now(HomeGateway x) {
        StringBuilder text = new StringBuilder();
        text.append(x.checksum()).append(' ').append(x.deviceCount()).append(' ').append(x.ruleCount());
        for (int i = 0; i < x.deviceCount(); i++) {
            text.append(' ').append(x.queueLength(i)).append(' ').append(x.longestDelay(i));
        }
        text.append(x.isQuiet(0) ? " q" : " -").append(x.isQuiet(1) ? 'q' : '-').append(x.isQuiet(2) ? 'q' : '-');
        return text.append(' ').append(x.drainTime(50)).toString();
    }

    static String past(HomeGateway x) {
        StringBuilder text = new StringBuilder(now(x));
        for (int i = 0; i < 10; i++) {
            text.append(" undo ").append(x.undo()).append(": ").append(now(x));
        }
        return text.toString();
    }

    /** Packets show the limit, the wake ports and the rules; ticks show all that waits for its time. */
    static String future(HomeGateway x) {
        StringBuilder text = new StringBuilder();
        for (int to = 0; to < x.deviceCount(); to++) {
            int receiver = to;
            for (int port : new int[] {1, 9, 85}) {
                text.append(outcome(x, y -> y.arrive(0, receiver, port, 3))).append(' ');
                text.append(outcome(x, y -> y.arrive(-1, receiver, port, 29))).append(' ');
            }
        }
        for (int i = 0; i < TICKS; i++) {
            text.append(outcome(x, y -> y.tick(1))).append(": ").append(now(x)).append(' ');
        }
        return text.toString();
    }

    static String input(HomeGateway x) {
        int offset = x.errorOffset();
        int longer = x.append(SPACES, SPACES, SPACES, SPACES, SPACES);
        int length = longer < 0 ? 900 : longer - 20;
        String answer = outcome(x, y -> y.load(length));
        return offset + " " + length + " " + answer + " " + x.errorOffset() + " " + now(x);
    }
}
