/** The bounds of the changes and of promises 33 and 34: what can be undone, how often, and the checksum. */
public final class ChangeBoundsTest {
    private static final int EIGHT = 8;

    private ChangeBoundsTest() {
    }

    public static void main(String[] args) {
        theChangingMethods();
        theOtherMethods();
        refusedCallsAreNoChanges();
        eightChanges();
        ninthChange();
        latestFirst();
        undoneOnesAreGone();
        nothingToUndo();
        undoOfTheFirstLoad();
        undoOfALaterLoad();
        bufferAndOffsetStay();
        firstListedException();
        checksumStartsAtZero();
        checksumOfCounts();
        checksumOfDevices();
        checksumOfRules();
        checksumWrapsAround();
        checksumChangesNothing();
        Check.end();
    }

    private static void change(String what, Story.Scene scene, Story.Call call, long answer) {
        int left = scene.make().undo();
        HomeGateway x = scene.make();
        Check.same(what, Story.outcome(x, call), String.valueOf(answer));
        Check.same("undo of " + what, x.undo(), Math.min(left + 1, EIGHT - 1));
        Check.same("undo again after " + what, x.undo(), Math.min(left, EIGHT - 2));
        Check.same("after undo of " + what, Story.futures(Story.after(scene, y -> call.on(y) + y.undo())),
                Story.futures(scene));
    }

    private static void theChangingMethods() {
        Check.sentence("The changing methods are load (when it succeeds), arrive (whatever happens to the packet), tick, "
                + "sleep, wake, setWeight, addRule, removeRule and moveRule");
        for (Story.Scene scene : new Story.Scene[] {Scenes::young, Scenes::busy}) {
            change("load", scene, x -> x.load(Scenes.NEXT.length()), 1);
            change("arrive, queued", scene, x -> x.arrive(0, 0, 1, 1), 0);
            change("arrive, rejected", scene, x -> x.arrive(-1, 0, 1, 1), 1);
            change("arrive, isolated", scene, x -> x.arrive(3, 0, 1, 1), 1);
            change("arrive, proxied", scene, x -> x.arrive(0, 1, 1, 1), 2);
            change("arrive, dropped", scene, x -> x.arrive(0, 0, 1, 99), 3);
            change("arrive, waking", scene, x -> x.arrive(0, 1, 9, 1), 0);
            change("sleep", scene, x -> x.sleep(0), HomeGateway.AWAKE);
            change("wake", scene, x -> x.wake(1), 0);
            change("setWeight", scene, x -> x.setWeight(0, 9), 2);
            change("setWeight to the same", scene, x -> x.setWeight(0, 2), 2);
            change("addRule", scene, x -> x.addRule(false, 4, 4, 85, 86), Scenes.RULES);
            change("removeRule", scene, x -> x.removeRule(0), Scenes.RULES - 1);
            change("moveRule", scene, x -> x.moveRule(0, 1), Scenes.RULES);
            change("moveRule to its place", scene, x -> x.moveRule(0, 0), Scenes.RULES);
        }
        change("tick", Scenes::young, x -> x.tick(1), 1);
        change("tick", Scenes::busy, x -> x.tick(1), 1);
        change("tick without an effect but the clock", Scenes::bare, x -> x.tick(100), 0);
        change("sleep of a waking one", Scenes::busy, x -> x.sleep(2), HomeGateway.WAKING);
        change("load of the same", () -> Check.loaded("gateway 1 1;"), x -> Check.load(x, "gateway 1 1;"), 0);
    }

    private static void unchanged(String what, Story.Call call) {
        for (Story.Scene scene : new Story.Scene[] {Scenes::young, Scenes::busy}) {
            String answer = Story.outcome(scene.make(), call);
            Check.no(what + " answered " + answer, answer.startsWith("throws."));
            Story.refused(what, scene, call, answer);
        }
    }

    private static void theOtherMethods() {
        Check.sentence("The changing methods are ...: no other one");
        unchanged("errorOffset", x -> x.errorOffset());
        unchanged("deviceCount", x -> x.deviceCount());
        unchanged("ruleCount", x -> x.ruleCount());
        unchanged("clock", x -> x.clock());
        unchanged("state", x -> x.state(0));
        unchanged("weight", x -> x.weight(0));
        unchanged("queueLength", x -> x.queueLength(0));
        unchanged("backlog", x -> x.backlog(0));
        unchanged("virtualTime", x -> x.virtualTime(0));
        unchanged("delivered", x -> x.delivered(0));
        unchanged("longestDelay", x -> x.longestDelay(0));
        unchanged("rejected", x -> x.rejected());
        unchanged("proxied", x -> x.proxied());
        unchanged("dropped", x -> x.dropped());
        unchanged("isQuiet", x -> x.isQuiet(0) ? 1 : 0);
        unchanged("verdict", x -> x.verdict(-1, 0, 85));
        unchanged("matching", x -> x.matching(3, 0, 85));
        unchanged("isUseless", x -> x.isUseless(1) ? 1 : 0);
        unchanged("openPorts", x -> x.openPorts(-1, 0));
        unchanged("fairness", x -> x.fairness());
        unchanged("drainTime", x -> x.drainTime(300));
        unchanged("checksum", x -> x.checksum());
        for (Story.Scene scene : new Story.Scene[] {Scenes::young, Scenes::busy}) {
            Story.leavesGateway("append", scene, x -> x.append(1, 2, 3, 4, 5), 80);
            Story.leavesGateway("load with an error", scene, x -> x.load(7), HomeGateway.SYNTAX_ERROR);
        }
    }

    /** The story afterwards tells how many changes can be undone, and to what. */
    private static void refusedCallsAreNoChanges() {
        Check.sentence("A method that throws an exception changes nothing");
        for (Story.Scene scene : new Story.Scene[] {Scenes::young, Scenes::busy, Scenes::fullOfRules}) {
            Story.argument("load", scene, x -> x.load(901));
            Story.outside("arrive", scene, x -> x.arrive(0, 4, 1, 1));
            Story.argument("arrive", scene, x -> x.arrive(0, 0, 1, 100));
            Story.argument("tick", scene, x -> x.tick(101));
            Story.outside("sleep", scene, x -> x.sleep(4));
            Story.outside("wake", scene, x -> x.wake(4));
            Story.state("wake", scene, x -> x.wake(0));
            Story.outside("setWeight", scene, x -> x.setWeight(4, 5));
            Story.argument("setWeight", scene, x -> x.setWeight(0, 10));
            Story.argument("addRule", scene, x -> x.addRule(true, 4, 5, 0, 0));
            Story.outside("removeRule", scene, x -> x.removeRule(12));
            Story.outside("moveRule", scene, x -> x.moveRule(0, 12));
        }
        Story.state("sleep", Scenes::busy, x -> x.sleep(1));
        Story.state("addRule", Scenes::fullOfRules, x -> x.addRule(true, 4, 4, 0, 0));
        Story.state("tick", Scenes::undone, x -> x.tick(1));
    }

    private static HomeGateway ticked(int ticks) {
        HomeGateway x = Check.loaded("gateway 5 9;device home 1 0 0;");
        for (int i = 0; i < ticks; i++) {
            x.tick(1);
        }
        return x;
    }

    private static void eightChanges() {
        Check.sentence("The latest 8 changes that have not been undone can be undone");
        for (int ticks = 0; ticks <= 7; ticks++) {
            HomeGateway x = ticked(ticks);
            for (int left = ticks; left >= 0; left--) {
                Check.same("of " + (ticks + 1) + " changes", x.undo(), left);
            }
            Check.same("all of " + (ticks + 1) + " are undone", x.deviceCount(), 0);
            Check.same("no more", x.undo(), -1);
        }
    }

    private static void ninthChange() {
        Check.sentence("The latest 8 changes ... can be undone: the ninth can't");
        for (int ticks : new int[] {8, 9, 10, 15, 16, 17, 100}) {
            HomeGateway x = ticked(ticks);
            for (int left = EIGHT - 1; left >= 0; left--) {
                Check.same("of " + (ticks + 1) + " changes", x.undo(), left);
                Check.same("clock", x.clock(), ticks - EIGHT + left);
            }
            Story.refused("a ninth undo", () -> undoneEight(ticks), y -> y.undo(), "-1");
            Check.same("a ninth undo", x.undo(), -1);
            Check.same("clock", x.clock(), ticks - EIGHT);
        }
    }

    private static HomeGateway undoneEight(int ticks) {
        HomeGateway x = ticked(ticks);
        for (int i = 0; i < EIGHT; i++) {
            x.undo();
        }
        return x;
    }

    private static void latestFirst() {
        Check.sentence("can be undone, the latest one first. Undoes the latest change that has not been undone");
        HomeGateway x = Check.loaded("gateway 5 9;device home 1 0 0;");
        long[] sums = new long[7];
        for (int i = 0; i < 7; i++) {
            sums[i] = x.checksum();
            step(x, i);
        }
        for (int i = 6; i >= 0; i--) {
            Check.same("undo", x.undo(), i + 1);
            Check.same("before step " + i, x.checksum(), sums[i]);
        }
    }

    private static void step(HomeGateway x, int step) {
        switch (step) {
            case 0 -> x.arrive(0, 0, 1, 4);
            case 1 -> x.setWeight(0, 3);
            case 2 -> x.addRule(true, 4, 4, 1, 2);
            case 3 -> x.sleep(0);
            case 4 -> x.wake(0);
            case 5 -> x.removeRule(0);
            default -> x.tick(1);
        }
    }

    private static void undoneOnesAreGone() {
        Check.sentence("Returns the number of changes that can still be undone");
        HomeGateway x = ticked(7);
        Check.same("8 were there", x.undo(), 7);
        Check.same("7 were there", x.undo(), 6);
        x.setWeight(0, 5);
        Check.same("7 again", x.undo(), 6);
        Check.same("clock", x.clock(), 5);
        x.setWeight(0, 5);
        x.setWeight(0, 6);
        x.setWeight(0, 7);
        Check.same("no more than 8", x.undo(), 7);
        Check.same("weight", x.weight(0), 6);
        Check.same("undo", x.undo(), 6);
        Check.same("undo", x.undo(), 5);
        Check.same("weight", x.weight(0), 1);
        Check.same("clock", x.clock(), 5);
        for (int left = 4; left >= 0; left--) {
            Check.same("undo", x.undo(), left);
            Check.same("clock", x.clock(), left);
        }
        Check.same("the load is out of reach", x.undo(), -1);
        Check.same("devices", x.deviceCount(), 1);
    }

    private static void nothingToUndo() {
        Check.sentence("-1 if there was none to undo, and nothing changes then");
        Story.refused("a new object", HomeGateway::new, x -> x.undo(), "-1");
        Story.refused("with a text", Scenes::empty, x -> x.undo(), "-1");
        Story.refused("all undone", Scenes::undone, x -> x.undo(), "-1");
        HomeGateway x = Scenes.undone();
        for (int i = 0; i < 20; i++) {
            Check.same("undo", x.undo(), -1);
        }
        Check.same("the text is there", x.load(Scenes.NEXT.length()), 1);
        Check.same("one change", x.undo(), 0);
        Check.same("none", x.undo(), -1);
    }

    private static void undoOfTheFirstLoad() {
        Check.sentence("Before the first successful load there is no gateway: undo brings that back");
        HomeGateway x = Check.loaded(Scenes.HOUSE);
        x.tick(3);
        Check.same("undo", x.undo(), 1);
        Check.same("undo", x.undo(), 0);
        Check.same("devices", x.deviceCount(), 0);
        Check.same("rules", x.ruleCount(), 0);
        Check.same("clock", x.clock(), 0);
        Check.same("checksum", x.checksum(), 0);
        Check.state("no gateway", () -> x.tick(1));
        Check.same("load again", Check.load(x, Scenes.HOUSE), Scenes.DEVICES);
        Check.same("as at first", Story.futures(() -> Check.loaded(Scenes.HOUSE)), Story.futures(
                Story.after(Scenes::undone, y -> y.load(0) + Check.load(y, Scenes.HOUSE))));
    }

    private static void undoOfALaterLoad() {
        Check.sentence("load (when it succeeds) can be undone");
        for (String text : new String[] {"gateway 1 1;", "gateway 9 99;device home 9 9 99;limit 1;",
            "gateway 9 99;" + "device guest 9 9 99;".repeat(10) + "deny any any 0 999;".repeat(12)
            + "quiet home 0 98;wake 1 2 3 4 5 6 7 8;"}) {
            Story.Scene old = () -> {
                HomeGateway x = Scenes.busy();
                x.load(0);
                Check.yes("load", Check.load(x, text) >= 0);
                x.tick(1);
                Check.same("undo of tick", x.undo(), 7);
                Check.same("undo of load", x.undo(), 6);
                return x;
            };
            Check.same("the old house", Story.futures(old), Story.futures(Scenes::busy));
        }
    }

    private static void bufferAndOffsetStay() {
        Check.sentence("The input buffer and the error offset are not affected");
        HomeGateway x = Check.loaded("gateway 1 1;");
        Check.load(x, "gateway 1;");
        Check.append(x, "gateway 2 2;device home 3 3 3;");
        Check.same("undo", x.undo(), 0);
        Check.same("errorOffset", x.errorOffset(), 9);
        Check.same("the length of the buffer", x.append(0x20202020, 0x20202020, 0x20202020, 0x20202020, 0x20202020), 60);
        Check.same("the text", x.load(60), 1);
        Check.same("errorOffset", x.errorOffset(), -1);
        Check.same("undo of that load", x.undo(), 0);
        Check.same("errorOffset", x.errorOffset(), -1);
        Check.argument("the buffer stays empty", () -> x.load(1));
        Check.load(x, "gateway 1 1;");
        Check.load(x, "gateway 1;");
        Check.same("undo of a load before an error", x.undo(), 0);
        Check.same("errorOffset", x.errorOffset(), 9);
    }

    private static void firstListedException() {
        Check.sentence("If several exceptions apply to a call, the one that is listed first with the method is thrown");
        Story.outside("verdict: device, port", Scenes::busy, x -> x.verdict(4, 0, 1000));
        Story.outside("verdict: device, port", Scenes::busy, x -> x.verdict(0, 4, -1));
        Story.outside("verdict: no gateway, port", Scenes::empty, x -> x.verdict(-1, 0, -1));
        Story.outside("arrive: device, port, size", Scenes::busy, x -> x.arrive(-2, 0, 1000, 0));
        Story.outside("arrive: device, port", Scenes::busy, x -> x.arrive(0, 4, 1000, 1));
        Story.outside("arrive: device, size", Scenes::busy, x -> x.arrive(0, -1, 1, 100));
        Story.outside("arrive: no gateway, size", Scenes::empty, x -> x.arrive(-1, 0, 1, 0));
        Story.argument("tick: ticks, no gateway", Scenes::empty, x -> x.tick(0));
        Story.argument("tick: ticks, no gateway", Scenes::undone, x -> x.tick(101));
        Story.outside("setWeight: device, weight", Scenes::busy, x -> x.setWeight(4, 0));
        Story.outside("setWeight: no gateway, weight", Scenes::empty, x -> x.setWeight(0, 10));
        Story.argument("addRule: selector, no gateway", Scenes::empty, x -> x.addRule(true, 5, 0, 0, 0));
        Story.argument("addRule: port, no gateway", Scenes::undone, x -> x.addRule(true, 0, 0, 0, 1000));
        Story.argument("addRule: high below low, 12 rules", Scenes::fullOfRules, x -> x.addRule(true, 0, 0, 1, 0));
        Story.argument("addRule: selector, 12 rules", Scenes::fullOfRules, x -> x.addRule(true, 0, -1, 0, 0));
    }

    private static long sum(long... numbers) {
        long sum = 0;
        for (long number : numbers) {
            sum = 31 * sum + number;
        }
        return sum;
    }

    private static void checksumStartsAtZero() {
        Check.sentence("It starts at 0; each number n in the following order replaces it by 31 * checksum + n");
        Check.same("a new object", new HomeGateway().checksum(), 0);
        Check.same("an empty gateway", Scenes.bare().checksum(), 0);
        HomeGateway x = Scenes.bare();
        x.tick(1);
        Check.same("clock 1", x.checksum(), 31 * 31 * 31);
        x.tick(100);
        Check.same("clock 101", x.checksum(), 101 * 31 * 31 * 31);
    }

    private static void checksumOfCounts() {
        Check.sentence("clock(), rejected(), proxied(), dropped()");
        HomeGateway x = Check.loaded("gateway 9 9;device home 1 0 0;limit 1;");
        x.arrive(-1, 0, 1, 1);
        Check.same("rejected", x.checksum(), sum(0, 1, 0, 0, 0, 1, 0, 0, 0));
        x.arrive(0, 0, 1, 2);
        x.arrive(0, 0, 1, 2);
        Check.same("dropped", x.checksum(), sum(0, 1, 0, 2, 0, 1, 0, 0, 0));
        x.sleep(0);
        for (int i = 0; i < 3; i++) {
            x.arrive(0, 0, 1, 1);
        }
        Check.same("proxied", x.checksum(), sum(0, 1, 3, 2, 2, 1, 0, 0, 0));
        x.tick(5);
        Check.same("clock", x.checksum(), sum(5, 1, 3, 2, 2, 1, 0, 0, 0));
    }

    private static void checksumOfDevices() {
        Check.sentence("for each device its state, its weight, its backlog, its virtual time and its delivered size");
        HomeGateway x = Check.loaded("gateway 7 9;device home 7 9 0;device iot 3 9 0;");
        x.arrive(0, 0, 1, 7);
        x.arrive(0, 0, 1, 8);
        x.tick(1);
        x.arrive(0, 1, 1, 5);
        x.sleep(1);
        Check.same("asleep", x.checksum(), sum(1, 0, 0, 0, 0, 7, 8, 2520, 7, 2, 3, 5, 2520, 0));
        x.wake(1);
        Check.same("waking", x.checksum(), sum(1, 0, 0, 0, 0, 7, 8, 2520, 7, 1, 3, 5, 2520, 0));
        String one = "device home 1 0 0;";
        Check.same("ten", Check.loaded("gateway 1 1;" + one.repeat(10)).checksum(), tenDevices());
    }

    private static long tenDevices() {
        long[] numbers = new long[54];
        for (int device = 0; device < 10; device++) {
            numbers[4 + 5 * device + 1] = 1;
        }
        return sum(numbers);
    }

    private static void checksumOfRules() {
        Check.sentence("for each rule 1 if it allows and 0 if it denies, the selectors of the sender and the receiver, "
                + "the lowest and the highest port");
        Check.same("allow", Check.loaded("gateway 1 1;allow net any 0 999;").checksum(), sum(1, 3, 4, 0, 999));
        Check.same("deny", Check.loaded("gateway 1 1;deny iot guest 5 6;").checksum(), sum(0, 2, 1, 5, 6));
        HomeGateway x = Check.loaded("gateway 1 1;deny iot guest 5 6;allow home net 7 7;");
        Check.same("two", x.checksum(), sum(0, 2, 1, 5, 6, 1, 0, 3, 7, 7));
        x.moveRule(0, 1);
        Check.same("the other way round", x.checksum(), sum(1, 0, 3, 7, 7, 0, 2, 1, 5, 6));
        x.removeRule(0);
        Check.same("one", x.checksum(), sum(0, 2, 1, 5, 6));
    }

    /** The numbers that are due were computed without bounds and then cut to 64 bits. */
    private static void checksumWrapsAround() {
        Check.sentence("wrapping around on overflow of a long");
        java.math.BigInteger sum = java.math.BigInteger.ZERO;
        int[] numbers = {100, 0, 0, 0, 0, 9, 0, 0, 0, 1, 4, 4, 999, 999, 1, 4, 4, 999, 999, 1, 4, 4, 999, 999};
        for (int number : numbers) {
            sum = sum.multiply(java.math.BigInteger.valueOf(31)).add(java.math.BigInteger.valueOf(number));
        }
        Check.yes("far beyond a long", sum.bitLength() > 100);
        HomeGateway x = Check.loaded("gateway 1 1;device home 9 0 0;" + "allow any any 999 999;".repeat(3));
        x.tick(100);
        Check.same("checksum", x.checksum(), sum.longValue());
    }

    private static void checksumChangesNothing() {
        Check.sentence("Returns the checksum");
        HomeGateway x = Scenes.busy();
        long first = x.checksum();
        Check.same("again", x.checksum(), first);
        x.arrive(0, 0, 1, 1);
        Check.no("after a change", x.checksum() == first);
        x.undo();
        Check.same("after its undo", x.checksum(), first);
    }
}
