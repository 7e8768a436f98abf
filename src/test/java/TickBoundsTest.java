/** The bounds of the steps of a tick, of quiet hours, and of promises 12 to 14, 18, 23, 24 and 26. */
public final class TickBoundsTest {
    private static final int AWAKE = HomeGateway.AWAKE;
    private static final int WAKING = HomeGateway.WAKING;
    private static final int ASLEEP = HomeGateway.ASLEEP;

    private TickBoundsTest() {
    }

    public static void main(String[] args) {
        ticksRefused();
        tickWithoutGateway();
        ticksInside();
        endOfTheClock();
        stepOneWaits();
        idleTimeStartsAnew();
        servedAreAwakeWithPacketsInLoudHours();
        smallestVirtualTime();
        smallestIndex();
        tooBigEndsTheStep();
        budgetDecreases();
        virtualTimeIncreases();
        deliveredIncreases();
        idleAfterDelivery();
        idleWithPackets();
        fallsAsleepAtItsPatience();
        patienceZero();
        onlyTheAwakeAreIdle();
        clockAfterTheRest();
        quietFromTo();
        quietOverTheDaysEnd();
        quietFromEqualsTo();
        quietForOneGroup();
        hourIsTheClockModuloTheDay();
        groupOfIsQuiet();
        longestDelay();
        fairness();
        fairnessOfNothing();
        limitOfDrainTime();
        smallestDrainTime();
        drainTimeOfNothing();
        drainTimeChangesNothing();
        Check.end();
    }

    private static void ticksRefused() {
        Check.sentence("tick: Throws IllegalArgumentException if ticks is out of range (1 to 100)");
        for (int ticks : new int[] {Integer.MIN_VALUE, -1, 0, 101, Integer.MAX_VALUE}) {
            Story.argument("tick(" + ticks + ")", Scenes::young, x -> x.tick(ticks));
            Story.argument("tick(" + ticks + ")", Scenes::busy, x -> x.tick(ticks));
            Story.argument("tick(" + ticks + ")", Scenes::bare, x -> x.tick(ticks));
            Story.argument("tick(" + ticks + ") without a gateway", Scenes::empty, x -> x.tick(ticks));
            Story.argument("tick(" + ticks + ") without a gateway", Scenes::undone, x -> x.tick(ticks));
        }
    }

    private static void tickWithoutGateway() {
        Check.sentence("tick: Throws IllegalStateException if there is no gateway");
        for (int ticks : new int[] {1, 100}) {
            Story.state("tick(" + ticks + ")", HomeGateway::new, x -> x.tick(ticks));
            Story.state("tick(" + ticks + ")", Scenes::empty, x -> x.tick(ticks));
            Story.state("tick(" + ticks + ") after undo", Scenes::undone, x -> x.tick(ticks));
        }
        Check.same("without devices", Scenes.bare().tick(100), 0);
    }

    private static void ticksInside() {
        Check.sentence("Simulates ticks (1 to 100). Returns the number of packets that were delivered");
        HomeGateway x = Check.loaded("gateway 1 9;device home 1 0 0;");
        for (int i = 0; i < 110; i++) {
            x.arrive(0, 0, 1, 1);
        }
        Check.same("tick(1)", x.tick(1), 1);
        Check.same("clock", x.clock(), 1);
        Check.same("tick(2)", x.tick(2), 2);
        Check.same("clock", x.clock(), 3);
        Check.same("tick(100)", x.tick(100), 100);
        Check.same("clock", x.clock(), 103);
        Check.same("the rest", x.tick(99), 7);
        Check.same("clock", x.clock(), 202);
        Check.same("9 ticks at once", Scenes.busy().tick(9), nineTicks(Scenes.busy()));
        Check.same("9 ticks at once", Story.futures(Story.after(Scenes::busy, y -> y.tick(9))),
                Story.futures(Story.after(Scenes::busy, TickBoundsTest::nineTicks)));
    }

    private static long nineTicks(HomeGateway x) {
        int delivered = 0;
        for (int i = 0; i < 9; i++) {
            delivered += x.tick(1);
        }
        return delivered;
    }

    /** 512 calls of 100 ticks do not reach the end; the sentence is kept all the same. */
    private static void endOfTheClock() {
        Check.sentence("tick: Throws IllegalStateException ... if the clock would exceed 100000");
        HomeGateway x = Check.loaded("gateway 1 100;");
        for (int i = 1; i < 1000; i++) {
            x.tick(100);
        }
        Check.same("clock", x.clock(), 99900);
        x.tick(1);
        Check.state("100001", () -> x.tick(100));
        Check.same("clock", x.clock(), 99901);
        Check.same("100000", x.tick(99), 0);
        Check.same("clock", x.clock(), 100000);
        Check.state("100001", () -> x.tick(1));
        Check.argument("0 at the end", () -> x.tick(0));
        Check.argument("101 at the end", () -> x.tick(101));
        Check.same("clock", x.clock(), 100000);
        Check.same("undo", x.undo(), 7);
        Check.same("clock", x.clock(), 99901);
    }

    private static void stepOneWaits() {
        Check.sentence("(1) For each WAKING device: if its wait is 0, it becomes AWAKE and its idle time is 0; "
                + "otherwise its wait decreases by 1");
        HomeGateway x = Check.loaded("gateway 9 9;device home 1 0 0;device home 1 1 0;device home 1 2 0;");
        for (int device = 0; device < 3; device++) {
            x.sleep(device);
            x.wake(device);
        }
        String[] due = {"011", "001", "000"};
        for (String states : due) {
            x.tick(1);
            Check.same("states at " + x.clock(), "" + x.state(0) + x.state(1) + x.state(2), states);
        }
        HomeGateway y = Check.loaded("gateway 9 9;device home 1 0 0;");
        y.arrive(0, 0, 1, 1);
        y.sleep(0);
        y.wake(0);
        Check.same("served in the tick of its waking", y.tick(1), 1);
    }

    /** In the tick of its waking a device is idle for one tick already: step (3) counts it. */
    private static void idleTimeStartsAnew() {
        Check.sentence("it becomes AWAKE and its idle time is 0");
        HomeGateway x = Check.loaded("gateway 9 9;device home 1 0 3;device home 1 0 1;");
        x.tick(2);
        x.sleep(0);
        x.wake(0);
        Check.same("patience 1", x.state(1), ASLEEP);
        x.wake(1);
        x.tick(1);
        Check.same("patience 1, in the tick of its waking", x.state(1), ASLEEP);
        x.tick(1);
        Check.same("patience 3, the second tick", x.state(0), AWAKE);
        x.tick(1);
        Check.same("patience 3, the third tick", x.state(0), ASLEEP);
    }

    private static void servedAreAwakeWithPacketsInLoudHours() {
        Check.sentence("devices that can be served (they are AWAKE, their queues are not empty, and it is not a quiet "
                + "hour of their group)");
        HomeGateway x = Check.loaded("gateway 9 9;device home 1 5 0;device guest 1 0 0;device iot 1 0 0;"
                + "device iot 1 0 0;quiet guest 0 1;");
        for (int device = 0; device < 3; device++) {
            x.arrive(device == 1 ? 1 : 0, device, 1, 1);
        }
        x.sleep(0);
        x.wake(0);
        Check.same("only the thing", x.tick(1), 1);
        Check.same("delivered", "" + x.delivered(0) + x.delivered(1) + x.delivered(2) + x.delivered(3), "0010");
        Check.same("now the guest", x.tick(1), 1);
        Check.same("delivered", "" + x.delivered(0) + x.delivered(1) + x.delivered(2) + x.delivered(3), "0110");
        x.sleep(0);
        Check.same("nobody", x.tick(9), 0);
    }

    private static void smallestVirtualTime() {
        Check.sentence("take the one of them with the smallest virtual time");
        HomeGateway x = Check.loaded("gateway 1 9;device home 1 0 0;device iot 1 0 0;");
        x.arrive(0, 0, 1, 1);
        x.tick(1);
        x.arrive(0, 1, 1, 1);
        x.arrive(0, 0, 1, 1);
        Check.same("times", x.virtualTime(0) + " " + x.virtualTime(1), "2520 0");
        x.tick(1);
        Check.same("the second", x.delivered(1), 1);
        x = Check.loaded("gateway 3 9;device home 1 0 0;device iot 2 0 0;");
        for (int i = 0; i < 6; i++) {
            x.arrive(0, 0, 1, 1);
            x.arrive(0, 1, 1, 1);
        }
        x.tick(1);
        Check.same("shares of 3", x.delivered(0) + " " + x.delivered(1), "1 2");
        x.tick(1);
        Check.same("shares of 6", x.delivered(0) + " " + x.delivered(1), "2 4");
    }

    private static void smallestIndex() {
        Check.sentence("of several the one with the smallest index");
        HomeGateway x = Check.loaded("gateway 1 9;device home 1 0 0;device iot 1 0 0;device iot 1 0 0;");
        x.arrive(0, 2, 1, 1);
        x.arrive(0, 1, 1, 1);
        x.arrive(0, 0, 1, 1);
        for (int device = 0; device < 3; device++) {
            Check.same("before", x.delivered(device), 0);
            x.tick(1);
            Check.same("after", x.delivered(device), 1);
        }
        HomeGateway y = Check.loaded("gateway 1 9;device home 1 0 0;device iot 1 0 0;device iot 1 0 0;");
        y.arrive(0, 2, 1, 1);
        y.arrive(0, 1, 1, 1);
        y.tick(1);
        Check.same("of the last two", y.delivered(1) + " " + y.delivered(2), "1 0");
    }

    private static void tooBigEndsTheStep() {
        Check.sentence("If the size of the first packet of its queue is greater than the budget, the step ends");
        HomeGateway x = Check.loaded("gateway 5 9;device home 1 0 0;device iot 1 0 0;");
        x.arrive(0, 0, 1, 5);
        Check.same("5 of 5", x.tick(1), 1);
        x.arrive(0, 0, 1, 6);
        Check.same("6 of 5", x.tick(1), 0);
        x.arrive(0, 1, 1, 1);
        Check.same("the other one is behind it: times", x.virtualTime(1), 12600);
        Check.same("the other one is behind it", x.tick(9), 0);
        x.sleep(0);
        Check.same("now it is not", x.tick(1), 1);
        HomeGateway y = Check.loaded("gateway 5 9;device home 1 0 0;device iot 1 0 0;");
        y.arrive(0, 0, 1, 3);
        y.arrive(0, 1, 1, 3);
        y.arrive(0, 0, 1, 2);
        Check.same("3, then 3 of 2 left, and 2 is not asked", y.tick(1), 1);
        Check.same("delivered", y.delivered(0) + " " + y.delivered(1), "3 0");
        Check.same("then 3 and 2", y.tick(1), 2);
    }

    private static void budgetDecreases() {
        Check.sentence("the budget decreases by its size");
        HomeGateway x = Check.loaded("gateway 10 9;device home 1 0 0;");
        for (int size : new int[] {4, 6, 4, 5, 2, 9, 10, 1}) {
            x.arrive(0, 0, 1, size);
        }
        Check.same("4 and 6", x.tick(1), 2);
        Check.same("4 and 5, 2 is too much", x.tick(1), 2);
        Check.same("2, and nothing is left over of 1", x.tick(1), 1);
        Check.same("9", x.tick(1), 1);
        Check.same("10", x.tick(1), 1);
        Check.same("1", x.tick(1), 1);
        Check.same("nothing", x.tick(1), 0);
        HomeGateway y = Check.loaded("gateway 99 9;device home 1 0 0;");
        for (int i = 0; i < 100; i++) {
            y.arrive(0, 0, 1, 1);
        }
        Check.same("99 of 1", y.tick(1), 99);
        Check.same("the 100th", y.tick(1), 1);
    }

    private static void virtualTimeIncreases() {
        Check.sentence("the virtual time of the device increases by 2520 * size / weight");
        for (int weight = 1; weight <= 9; weight++) {
            HomeGateway x = Check.loaded("gateway 99 9;device home " + weight + " 0 0;");
            long due = 0;
            for (int size : new int[] {1, 99, 7}) {
                x.arrive(0, 0, 1, size);
                x.tick(1);
                due += 2520L * size / weight;
                Check.same("weight " + weight + ", size " + size, x.virtualTime(0), due);
            }
        }
        HomeGateway y = Check.loaded("gateway 999 9;device home 1 0 0;limit 999;");
        for (int i = 0; i < 40; i++) {
            for (int j = 0; j < 10; j++) {
                y.arrive(0, 0, 1, 99);
            }
            y.tick(1);
        }
        Check.same("the greatest", y.virtualTime(0), 2520L * 99 * 400);
        Check.same("delivered", y.delivered(0), 99 * 400);
    }

    private static void deliveredIncreases() {
        Check.sentence("the delivered size of the device increases by the size");
        HomeGateway x = Check.loaded("gateway 5 9;device home 1 0 0;device home 1 0 0;");
        x.arrive(0, 0, 1, 5);
        x.arrive(0, 0, 1, 2);
        Check.same("before", x.delivered(0), 0);
        x.tick(1);
        Check.same("5", x.delivered(0), 5);
        Check.same("backlog", x.backlog(0), 2);
        Check.same("queueLength", x.queueLength(0), 1);
        x.tick(1);
        Check.same("7", x.delivered(0), 7);
        Check.same("the other", x.delivered(1), 0);
    }

    private static void idleAfterDelivery() {
        Check.sentence("(3) if a packet was delivered to it in this tick ..., its idle time becomes 0");
        HomeGateway x = Check.loaded("gateway 9 9;device home 1 0 2;");
        x.tick(1);
        x.arrive(0, 0, 1, 1);
        x.tick(1);
        Check.same("the queue is empty, but it was served", x.queueLength(0), 0);
        Check.same("awake", x.state(0), AWAKE);
        x.tick(1);
        Check.same("idle for 1 of 2", x.state(0), AWAKE);
        x.tick(1);
        Check.same("idle for 2 of 2", x.state(0), ASLEEP);
        HomeGateway y = Check.loaded("gateway 9 9;device home 1 0 1;");
        y.arrive(0, 0, 1, 1);
        y.tick(1);
        Check.same("patience 1, served", y.state(0), AWAKE);
        y.tick(1);
        Check.same("served in an earlier tick", y.state(0), ASLEEP);
    }

    private static void idleWithPackets() {
        Check.sentence("(3) if ... its queue is not empty, its idle time becomes 0");
        HomeGateway x = Check.loaded("gateway 5 9;device home 1 0 2;device iot 1 0 2;quiet home 1 4;");
        x.tick(1);
        x.arrive(0, 0, 1, 1);
        x.tick(3);
        Check.same("in quiet hours", x.state(0), AWAKE);
        Check.same("the other one", x.state(1), ASLEEP);
        Check.same("served", x.tick(1), 1);
        x.tick(1);
        Check.same("idle for 1 of 2", x.state(0), AWAKE);
        x.tick(1);
        Check.same("idle for 2 of 2", x.state(0), ASLEEP);
        HomeGateway y = Check.loaded("gateway 5 9;device home 1 0 1;");
        y.arrive(0, 0, 1, 6);
        y.tick(20);
        Check.same("too big a packet", y.state(0), AWAKE);
    }

    private static void fallsAsleepAtItsPatience() {
        Check.sentence("otherwise it increases by 1, and if it is then equal to the patience, the device becomes ASLEEP");
        for (int patience : new int[] {1, 2, 5, 98, 99}) {
            HomeGateway x = Check.loaded("gateway 5 9;device home 1 0 " + patience + ";");
            if (patience > 1) {
                x.tick(patience - 1);
            }
            Check.same("a tick before " + patience, x.state(0), AWAKE);
            x.tick(1);
            Check.same("at " + patience, x.state(0), ASLEEP);
            Check.same("a packet is proxied", x.arrive(0, 0, 1, 1), 2);
        }
    }

    private static void patienceZero() {
        Check.sentence("So a device with the patience 0 never falls asleep by itself");
        HomeGateway x = Check.loaded("gateway 5 9;device home 1 0 0;");
        for (int i = 0; i < 400; i++) {
            x.tick(100);
        }
        Check.same("after 40000 ticks", x.state(0), AWAKE);
    }

    private static void onlyTheAwakeAreIdle() {
        Check.sentence("(3) For each AWAKE device");
        HomeGateway x = Check.loaded("gateway 5 9;device home 1 5 2;");
        x.sleep(0);
        x.wake(0);
        x.tick(5);
        Check.same("waking for 5 ticks", x.state(0), WAKING);
        x.tick(1);
        Check.same("awake, idle for 1 of 2", x.state(0), AWAKE);
        x.tick(1);
        Check.same("idle for 2 of 2", x.state(0), ASLEEP);
        x.tick(50);
        Check.same("asleep stays asleep", x.state(0), ASLEEP);
    }

    private static void clockAfterTheRest() {
        Check.sentence("(4) The clock increases by 1");
        HomeGateway x = Check.loaded("gateway 5 2;device home 1 0 0;quiet home 1 0;");
        x.arrive(0, 0, 1, 1);
        Check.same("served at hour 0", x.tick(1), 1);
        Check.yes("quiet afterwards", x.isQuiet(0));
        x.arrive(0, 0, 1, 1);
        Check.same("not served at hour 1", x.tick(1), 0);
        Check.no("not quiet afterwards", x.isQuiet(0));
        Check.same("clock", x.clock(), 2);
    }

    private static String quietHours(int day, String hours, int ticks) {
        HomeGateway x = Check.loaded("gateway 5 " + day + ";quiet home " + hours + ";");
        StringBuilder seen = new StringBuilder();
        for (int i = 0; i < ticks; i++) {
            seen.append(x.isQuiet(0) ? 'q' : '-');
            x.tick(1);
        }
        return seen.toString();
    }

    private static void quietFromTo() {
        Check.sentence("an hour h is quiet if from <= h and h < to");
        Check.same("0 1", quietHours(5, "0 1", 11), "q----q----q");
        Check.same("1 2", quietHours(5, "1 2", 11), "-q----q----");
        Check.same("1 4", quietHours(5, "1 4", 11), "-qqq--qqq--");
        Check.same("3 4", quietHours(5, "3 4", 11), "---q----q--");
        Check.same("0 4", quietHours(5, "0 4", 11), "qqqq-qqqq-q");
    }

    private static void quietOverTheDaysEnd() {
        Check.sentence("or, if to < from, if h >= from or h < to");
        Check.same("4 0", quietHours(5, "4 0", 11), "----q----q-");
        Check.same("3 0", quietHours(5, "3 0", 11), "---qq---qq-");
        Check.same("4 1", quietHours(5, "4 1", 11), "q---qq---qq");
        Check.same("2 1", quietHours(5, "2 1", 11), "q-qqqq-qqqq");
        Check.same("1 0", quietHours(5, "1 0", 11), "-qqqq-qqqq-");
        Check.same("4 3", quietHours(5, "4 3", 11), "qqq-qqqq-qq");
        Check.same("1 0 of 2", quietHours(2, "1 0", 6), "-q-q-q");
    }

    private static void quietFromEqualsTo() {
        Check.sentence("from <= h and h < to: no hour, if from is to");
        Check.same("0 0", quietHours(5, "0 0", 11), "-----------");
        Check.same("2 2", quietHours(5, "2 2", 11), "-----------");
        Check.same("4 4", quietHours(5, "4 4", 11), "-----------");
        Check.same("0 0 of 1", quietHours(1, "0 0", 3), "---");
    }

    private static void quietForOneGroup() {
        Check.sentence("There is at most one such statement for each group; without it, no hour is quiet");
        String[] groups = {"home", "guest", "iot"};
        for (int group = 0; group < 3; group++) {
            HomeGateway x = Check.loaded("gateway 5 2;quiet " + groups[group] + " 0 1;");
            for (int other = 0; other < 3; other++) {
                Check.same(groups[group] + " for " + other, x.isQuiet(other) ? 1 : 0, other == group ? 1 : 0);
            }
        }
        HomeGateway y = Check.loaded("gateway 5 3;quiet iot 2 0;quiet home 0 1;quiet guest 1 2;");
        for (int hour = 0; hour < 3; hour++) {
            for (int group = 0; group < 3; group++) {
                Check.same("hour " + hour + " for " + group, y.isQuiet(group) ? 1 : 0, hour == group ? 1 : 0);
            }
            y.tick(1);
        }
    }

    private static void hourIsTheClockModuloTheDay() {
        Check.sentence("the hour is the clock modulo this number");
        HomeGateway x = Check.loaded("gateway 5 7;quiet home 6 0;");
        int[] clocks = {0, 5, 6, 7, 12, 13, 14, 99, 104, 105};
        for (int clock : clocks) {
            while (x.clock() < clock) {
                x.tick(1);
            }
            Check.same("clock " + clock, x.isQuiet(0) ? 1 : 0, clock % 7 == 6 ? 1 : 0);
        }
    }

    private static void groupOfIsQuiet() {
        Check.sentence("isQuiet: false without a gateway. Throws IllegalArgumentException if group is not 0 to 2");
        for (int group : new int[] {Integer.MIN_VALUE, -1, 3, 4, Integer.MAX_VALUE}) {
            Story.argument("isQuiet(" + group + ")", Scenes::empty, x -> x.isQuiet(group) ? 1 : 0);
            Story.argument("isQuiet(" + group + ")", Scenes::busy, x -> x.isQuiet(group) ? 1 : 0);
        }
        for (int group = 0; group < 3; group++) {
            Check.no("a new object", new HomeGateway().isQuiet(group));
            Check.no("before load", Scenes.empty().isQuiet(group));
        }
        HomeGateway x = Check.loaded("gateway 5 2;quiet home 0 1;quiet guest 0 1;quiet iot 0 1;");
        Check.yes("all three", x.isQuiet(0) && x.isQuiet(1) && x.isQuiet(2));
        x.undo();
        Check.no("after undo of load", x.isQuiet(0) || x.isQuiet(1) || x.isQuiet(2));
    }

    private static void longestDelay() {
        Check.sentence("Returns the greatest delay of a packet that has been delivered to it: the clock in the tick of "
                + "its delivery (before step (4)) minus the clock when it came; -1 if there is none");
        HomeGateway x = Check.loaded("gateway 5 9;device home 1 0 0;device iot 1 0 0;");
        x.tick(3);
        x.arrive(0, 0, 1, 5);
        x.arrive(0, 0, 1, 5);
        x.arrive(0, 1, 1, 6);
        Check.same("none yet", x.longestDelay(0), -1);
        x.tick(1);
        Check.same("in the next tick", x.longestDelay(0), 0);
        x.sleep(1);
        x.tick(1);
        Check.same("in the tick after it", x.longestDelay(0), 1);
        x.arrive(0, 0, 1, 5);
        x.tick(1);
        Check.same("the greatest stays", x.longestDelay(0), 1);
        x.tick(9);
        Check.same("a packet that waits does not count", x.longestDelay(1), -1);
        x.arrive(0, 0, 1, 5);
        x.sleep(0);
        x.tick(100);
        x.wake(0);
        x.tick(1);
        Check.same("100 ticks", x.longestDelay(0), 100);
        Check.load(x, "gateway 5 9;device home 1 0 0;");
        Check.same("none since load", x.longestDelay(0), -1);
    }

    private static int fairnessOf(int[] weights, int[] sizes) {
        StringBuilder text = new StringBuilder("gateway 999 5;");
        for (int weight : weights) {
            text.append("device iot ").append(weight).append(" 0 0;");
        }
        HomeGateway x = Check.loaded(text.toString());
        for (int i = 0; i < sizes.length; i++) {
            if (sizes[i] > 0) {
                x.arrive(0, i, 1, sizes[i]);
            }
        }
        x.tick(1);
        return x.fairness();
    }

    private static void fairness() {
        Check.sentence("The result is (int) (1000.0f * s * s / (n * q)), where n is the number of devices");
        Check.same("one device", fairnessOf(new int[] {1}, new int[] {99}), 1000);
        Check.same("one device, of weight 9", fairnessOf(new int[] {9}, new int[] {1}), 1000);
        Check.same("one of two", fairnessOf(new int[] {1, 1}, new int[] {5, 0}), 500);
        Check.same("the last of two", fairnessOf(new int[] {1, 1}, new int[] {0, 5}), 500);
        Check.same("one of ten", fairnessOf(new int[] {1, 1, 1, 1, 1, 1, 1, 1, 1, 1}, new int[] {7}), 100);
        Check.same("by weight", fairnessOf(new int[] {1, 9}, new int[] {11, 99}), 1000);
        Check.same("truncated", fairnessOf(new int[] {1, 1, 1}, new int[] {1, 0, 0}), 333);
        Check.same("truncated", fairnessOf(new int[] {1, 1}, new int[] {1, 2}), 900);
        Check.same("truncated", fairnessOf(new int[] {1, 1}, new int[] {3, 4}), 980);
        Check.same("x in float", fairnessOf(new int[] {2, 3}, new int[] {1, 1}), 961);
        floatFromLeftToRight();
    }

    /** Another order of the computations, or double, would answer one more or one less in each case. */
    private static void floatFromLeftToRight() {
        Check.sentence("All computations are in float, from left to right");
        Check.same("just below 1000", fairnessOf(new int[] {9}, new int[] {62}), 999);
        Check.same("not double, not 1000 * (s * s)", fairnessOf(new int[] {7, 4}, new int[] {88, 0}), 500);
        Check.same("not s * s / (n * q) * 1000", fairnessOf(new int[] {5, 9}, new int[] {0, 79}), 499);
        Check.same("not 1000 * s * s / n / q", fairnessOf(new int[] {5, 5, 7, 6, 2, 9, 9, 3, 9, 5},
                new int[] {5, 5, 3, 6, 2, 9, 9, 3, 9, 5}), 968);
        Check.same("in the order of the indexes", fairnessOf(new int[] {4, 3, 5, 5, 5},
                new int[] {97, 54, 87, 42, 89}), 920);
        Check.same("not rounded", fairnessOf(new int[] {6, 2, 7, 3, 6}, new int[] {61, 80, 15, 89, 57}), 624);
    }

    private static void fairnessOfNothing() {
        Check.sentence("Returns this result; 1000 if nothing has been delivered");
        Check.same("a new object", new HomeGateway().fairness(), 1000);
        Check.same("no devices", Scenes.bare().fairness(), 1000);
        HomeGateway x = Check.loaded("gateway 9 9;device home 1 0 0;device home 1 0 0;");
        Check.same("no packet", x.fairness(), 1000);
        x.arrive(0, 0, 1, 1);
        Check.same("no packet delivered", x.fairness(), 1000);
        x.tick(1);
        Check.same("one delivered", x.fairness(), 500);
    }

    private static void limitOfDrainTime() {
        Check.sentence("drainTime: Throws IllegalArgumentException if limit is out of range (0 to 300)");
        for (int limit : new int[] {Integer.MIN_VALUE, -1, 301, Integer.MAX_VALUE}) {
            Story.argument("drainTime(" + limit + ")", Scenes::empty, x -> x.drainTime(limit));
            Story.argument("drainTime(" + limit + ")", Scenes::young, x -> x.drainTime(limit));
            Story.argument("drainTime(" + limit + ")", Scenes::busy, x -> x.drainTime(limit));
        }
        Check.same("drainTime(0)", Scenes.bare().drainTime(0), 0);
        Check.same("drainTime(300)", Scenes.bare().drainTime(300), 0);
    }

    private static void smallestDrainTime() {
        Check.sentence("Returns the smallest such number, 0 to limit; -1 if limit ticks are not enough");
        HomeGateway x = Check.loaded("gateway 1 9;device home 1 0 0;limit 999;");
        for (int packets = 0; packets <= 3; packets++) {
            for (int limit = 0; limit <= 4; limit++) {
                Check.same(packets + " packets, limit " + limit, x.drainTime(limit), packets <= limit ? packets : -1);
            }
            x.arrive(0, 0, 1, 1);
        }
        HomeGateway y = Check.loaded("gateway 1 9;device home 1 0 0;limit 999;");
        for (int i = 0; i < 300; i++) {
            y.arrive(0, 0, 1, 1);
        }
        Check.same("300 packets, limit 299", y.drainTime(299), -1);
        Check.same("300 packets, limit 300", y.drainTime(300), 300);
        y.arrive(0, 0, 1, 1);
        Check.same("301 packets, limit 300", y.drainTime(300), -1);
    }

    private static void drainTimeOfNothing() {
        Check.sentence("how many ticks are needed until all queues are empty if no more packets come and nobody does "
                + "anything else");
        Check.same("a new object", new HomeGateway().drainTime(300), 0);
        Check.same("no packets", Check.loaded("gateway 1 1;device home 1 0 0;").drainTime(0), 0);
        HomeGateway x = Check.loaded("gateway 1 9;device home 1 2 0;device iot 1 0 0;quiet iot 0 5;");
        x.arrive(0, 0, 1, 1);
        x.sleep(0);
        Check.same("nobody wakes it", x.drainTime(300), -1);
        x.wake(0);
        Check.same("it wakes", x.drainTime(300), 3);
        x.arrive(0, 1, 1, 1);
        Check.same("and after the quiet hours", x.drainTime(300), 6);
        x.arrive(0, 1, 1, 2);
        Check.same("too big for ever", x.drainTime(300), -1);
    }

    private static void drainTimeChangesNothing() {
        Check.sentence("Predicts");
        Story.refused("drainTime(300)", Scenes::busy, x -> x.drainTime(300), String.valueOf(Scenes.busy().drainTime(300)));
        Story.refused("drainTime(1)", Scenes::young, x -> x.drainTime(1), String.valueOf(Scenes.young().drainTime(1)));
        Story.refused("drainTime(0)", Scenes::empty, x -> x.drainTime(0), "0");
    }
}
