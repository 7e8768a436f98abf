/** The bounds of the steps of a packet, of promises 8 to 17, 25 and 27 to 29. */
public final class PacketBoundsTest {
    private static final int QUEUED = 0;
    private static final int REJECTED = 1;
    private static final int PROXIED = 2;
    private static final int DROPPED = 3;
    private static final int N = Scenes.DEVICES;
    private static final int[] NO_DEVICE = {Integer.MIN_VALUE, -1, N, 10, Integer.MAX_VALUE};

    private PacketBoundsTest() {
    }

    public static void main(String[] args) {
        queriesOfDevices();
        devicesOfArrive();
        portOfArrive();
        sizeOfArrive();
        stepOneRejects();
        stepTwoProxies();
        stepThreeDrops();
        stepFourQueues();
        orderOfSteps();
        virtualTimeOfAnEmptyQueue();
        virtualTimeAlone();
        virtualTimeOfAFullQueue();
        sleepersCountToo();
        packetWakes();
        packetLeavesTheWakingAlone();
        counts();
        sleepRefused();
        sleepInside();
        wakeRefused();
        wakeInside();
        weightRefused();
        weightInside();
        manyPackets();
        Check.end();
    }

    private static void queriesOfDevices() {
        Check.sentence("Throws IndexOutOfBoundsException if there is no such device");
        for (int device : NO_DEVICE) {
            for (Story.Scene scene : new Story.Scene[] {Scenes::busy, Scenes::bare, Scenes::empty, Scenes::undone}) {
                Story.outside("state(" + device + ")", scene, x -> x.state(device));
                Story.outside("weight(" + device + ")", scene, x -> x.weight(device));
                Story.outside("queueLength(" + device + ")", scene, x -> x.queueLength(device));
                Story.outside("backlog(" + device + ")", scene, x -> x.backlog(device));
                Story.outside("virtualTime(" + device + ")", scene, x -> x.virtualTime(device));
                Story.outside("delivered(" + device + ")", scene, x -> x.delivered(device));
                Story.outside("longestDelay(" + device + ")", scene, x -> x.longestDelay(device));
            }
        }
        String ten = "gateway 1 1;" + "device home 1 0 0;".repeat(9) + "device iot 6 0 0;";
        Check.same("the last of ten", Check.loaded(ten).weight(9), 6);
        Story.outside("beyond ten", () -> Check.loaded(ten), x -> x.weight(10));
        HomeGateway x = Scenes.busy();
        Check.same("states", "" + x.state(0) + x.state(1) + x.state(2) + x.state(3), "0210");
        Check.same("weights", "" + x.weight(0) + x.weight(1) + x.weight(2) + x.weight(3), "2131");
        Check.same("queues", "" + x.queueLength(0) + x.queueLength(1) + x.queueLength(2), "202");
        Check.same("backlogs", x.backlog(0) + " " + x.backlog(1) + " " + x.backlog(2), "8 0 11");
        Check.same("delivered", x.delivered(0) + " " + x.delivered(2), "5 0");
        Check.same("delays", x.longestDelay(0) + " " + x.longestDelay(2), "0 -1");
        Check.same("virtual times", x.virtualTime(0) + " " + x.virtualTime(2), "6300 0");
    }

    private static void devicesOfArrive() {
        Check.sentence("arrive: Throws IndexOutOfBoundsException if one of the devices does not exist");
        for (Story.Scene scene : new Story.Scene[] {Scenes::young, Scenes::busy}) {
            for (int from : new int[] {Integer.MIN_VALUE, -2, N, Integer.MAX_VALUE}) {
                Story.outside("arrive from " + from, scene, x -> x.arrive(from, 0, 85, 1));
            }
            for (int to : NO_DEVICE) {
                Story.outside("arrive to " + to, scene, x -> x.arrive(0, to, 85, 1));
                Story.outside("arrive from the internet to " + to, scene, x -> x.arrive(-1, to, 85, 1));
            }
        }
        Story.outside("arrive without devices", Scenes::bare, x -> x.arrive(-1, 0, 85, 1));
        Story.outside("arrive without a gateway", Scenes::empty, x -> x.arrive(-1, 0, 85, 1));
        Check.same("from the internet", Scenes.busy().arrive(-1, 0, 85, 1), QUEUED);
        Check.same("from the first", Scenes.busy().arrive(0, 0, 85, 1), QUEUED);
        Check.same("from the last to itself", Scenes.busy().arrive(N - 1, N - 1, 85, 1), QUEUED);
    }

    private static void portOfArrive() {
        Check.sentence("arrive: Throws IllegalArgumentException if port ... is out of range");
        for (Story.Scene scene : new Story.Scene[] {Scenes::young, Scenes::busy}) {
            for (int port : new int[] {Integer.MIN_VALUE, -1, 1000, Integer.MAX_VALUE}) {
                Story.argument("arrive at " + port, scene, x -> x.arrive(0, 0, port, 1));
                Story.argument("arrive at " + port + ", rejected else", scene, x -> x.arrive(3, 0, port, 1));
                Story.outside("arrive to none at " + port, scene, x -> x.arrive(0, N, port, 1));
                Story.outside("arrive from none at " + port, scene, x -> x.arrive(N, 0, port, 1));
            }
        }
        Check.same("port 0", Scenes.busy().arrive(0, 0, 0, 1), QUEUED);
        Check.same("port 999", Scenes.busy().arrive(0, 0, 999, 1), QUEUED);
    }

    private static void sizeOfArrive() {
        Check.sentence("arrive: Throws IllegalArgumentException if ... size is out of range (1 to 99)");
        for (Story.Scene scene : new Story.Scene[] {Scenes::young, Scenes::busy}) {
            for (int size : new int[] {Integer.MIN_VALUE, -1, 0, 100, Integer.MAX_VALUE}) {
                Story.argument("arrive of " + size, scene, x -> x.arrive(0, 0, 1, size));
                Story.argument("arrive of " + size + ", rejected else", scene, x -> x.arrive(-1, 0, 1, size));
                Story.argument("arrive of " + size + ", proxied else", scene, x -> x.arrive(0, 1, 1, size));
                Story.outside("arrive to none of " + size, scene, x -> x.arrive(0, -1, 1, size));
            }
        }
        HomeGateway x = Check.loaded("gateway 1 1;device home 1 0 0;");
        Check.same("size 1", x.arrive(0, 0, 1, 1), QUEUED);
        Check.same("backlog", x.backlog(0), 1);
        Check.same("size 99", x.arrive(0, 0, 1, 99), QUEUED);
        Check.same("backlog", x.backlog(0), 100);
    }

    private static void stepOneRejects() {
        Check.sentence("(1) If the verdict is not ALLOWED, it is rejected");
        HomeGateway x = Check.loaded(Scenes.HOUSE);
        Check.same("allowed", x.arrive(-1, 0, 80, 1), QUEUED);
        Check.same("denied for want of a rule", x.arrive(-1, 0, 79, 1), REJECTED);
        Check.same("denied by a rule", x.arrive(2, 0, 80, 1), REJECTED);
        Check.same("isolated", x.arrive(1, 0, 80, 1), REJECTED);
        Check.same("isolated guests", x.arrive(1, 3, 80, 1), REJECTED);
        Check.same("a guest to itself", x.arrive(1, 1, 80, 1), QUEUED);
        Check.same("rejected", x.rejected(), 4);
        Check.same("queued", x.queueLength(0) + x.queueLength(1) + x.queueLength(2) + x.queueLength(3), 2);
    }

    private static void stepTwoProxies() {
        Check.sentence("(2) If the receiver is ASLEEP and the port is not a wake port, it is proxied");
        HomeGateway x = Check.loaded(Scenes.HOUSE);
        Check.same("awake", x.arrive(0, 2, 8, 1), QUEUED);
        x.sleep(2);
        Check.same("asleep, port 8", x.arrive(0, 2, 8, 1), PROXIED);
        Check.same("asleep, port 10", x.arrive(0, 2, 10, 1), PROXIED);
        Check.same("state", x.state(2), HomeGateway.ASLEEP);
        Check.same("queueLength", x.queueLength(2), 1);
        Check.same("proxied", x.proxied(), 2);
        Check.same("another one sleeps", x.arrive(2, 1, 8, 1), QUEUED);
        Check.same("asleep, wake port", x.arrive(0, 2, 9, 1), QUEUED);
        Check.same("waking", x.arrive(0, 2, 8, 1), QUEUED);
        Check.same("proxied", x.proxied(), 2);
    }

    private static void stepThreeDrops() {
        Check.sentence("(3) If the sizes of the packets in the queue of the receiver plus its size are greater than "
                + "the limit, it is dropped");
        HomeGateway x = Check.loaded("gateway 9 9;device home 1 0 0;device iot 1 0 0;limit 10;");
        Check.same("0 + 11 of 10", x.arrive(0, 0, 1, 11), DROPPED);
        Check.same("0 + 10 of 10", x.arrive(0, 0, 1, 10), QUEUED);
        Check.same("10 + 1 of 10", x.arrive(0, 0, 1, 1), DROPPED);
        Check.same("another queue", x.arrive(0, 1, 1, 4), QUEUED);
        Check.same("4 + 7 of 10", x.arrive(0, 1, 1, 7), DROPPED);
        Check.same("4 + 6 of 10", x.arrive(0, 1, 1, 6), QUEUED);
        Check.same("dropped", x.dropped(), 3);
        Check.same("backlogs", x.backlog(0) + x.backlog(1), 20);
        HomeGateway y = Check.loaded("gateway 10 9;device home 1 0 0;limit 10;");
        y.arrive(0, 0, 1, 10);
        y.tick(1);
        Check.same("delivered ones do not count", y.arrive(0, 0, 1, 10), QUEUED);
    }

    private static void stepFourQueues() {
        Check.sentence("(4) Otherwise it is put at the end of the queue of the receiver");
        HomeGateway x = Check.loaded("gateway 5 9;device home 1 0 0;device iot 1 0 0;");
        x.arrive(0, 0, 1, 1);
        x.arrive(0, 0, 1, 5);
        x.arrive(0, 0, 1, 2);
        x.arrive(0, 0, 1, 3);
        Check.same("queueLength", x.queueLength(0), 4);
        Check.same("backlog", x.backlog(0), 11);
        Check.same("of another one", x.queueLength(1), 0);
        Check.same("1, then 5 is too much", x.tick(1), 1);
        Check.same("backlog", x.backlog(0), 10);
        Check.same("5", x.tick(1), 1);
        Check.same("backlog", x.backlog(0), 5);
        Check.same("2 and 3", x.tick(1), 2);
        Check.same("backlog", x.backlog(0), 0);
    }

    private static void orderOfSteps() {
        Check.sentence("these steps decide what happens to it, in this order");
        HomeGateway x = Check.loaded("gateway 5 9;device home 1 0 0;deny any any 7 7;wake 7 8;limit 10;");
        x.arrive(0, 0, 1, 10);
        Check.same("(1) before (3)", x.arrive(0, 0, 7, 1), REJECTED);
        x.sleep(0);
        Check.same("(1) before (2)", x.arrive(-1, 0, 1, 1), REJECTED);
        Check.same("(1) before waking", x.arrive(0, 0, 7, 1), REJECTED);
        Check.same("(2) before (3)", x.arrive(0, 0, 1, 99), PROXIED);
        Check.same("(3) before waking", x.arrive(0, 0, 8, 1), DROPPED);
        Check.same("still asleep", x.state(0), HomeGateway.ASLEEP);
        Check.same("counts", "" + x.rejected() + x.proxied() + x.dropped(), "311");
    }

    /** Devices 0 to 2 with the virtual times 2520, 5040 and 7560; their queues are empty. */
    private static HomeGateway threeTimes() {
        HomeGateway x = Check.loaded("gateway 99 9;device home 1 0 0;device iot 1 0 0;device iot 1 0 0;"
                + "device iot 1 0 0;");
        for (int device = 0; device < 3; device++) {
            x.arrive(0, device, 1, device + 1);
            x.tick(1);
        }
        return x;
    }

    private static void virtualTimeOfAnEmptyQueue() {
        Check.sentence("If the queue was empty, the virtual time of the receiver becomes the greatest of itself and of "
                + "the smallest virtual time of all devices whose queues are not empty (not counting the receiver)");
        HomeGateway x = threeTimes();
        Check.same("times", x.virtualTime(0) + " " + x.virtualTime(1) + " " + x.virtualTime(2), "2520 5040 7560");
        x.arrive(0, 2, 1, 1);
        x.arrive(0, 1, 1, 1);
        Check.same("5040 rises to 7560", x.virtualTime(1), 7560);
        x = threeTimes();
        x.arrive(0, 1, 1, 1);
        x.arrive(0, 2, 1, 1);
        Check.same("7560 stays above 5040", x.virtualTime(2), 7560);
        x.arrive(0, 3, 1, 1);
        Check.same("0 rises to the smallest of 5040 and 7560", x.virtualTime(3), 5040);
        x = threeTimes();
        x.arrive(0, 2, 1, 1);
        x.arrive(0, 3, 1, 1);
        Check.same("an empty queue does not count", x.virtualTime(3), 7560);
        x = threeTimes();
        x.arrive(0, 1, 1, 1);
        x.arrive(0, 0, 1, 1);
        x.arrive(0, 3, 1, 1);
        Check.same("the index does not count", x.virtualTime(3), 5040);
    }

    private static void virtualTimeAlone() {
        Check.sentence("if there are no such devices, it stays");
        HomeGateway x = threeTimes();
        x.arrive(0, 3, 1, 1);
        Check.same("0 stays", x.virtualTime(3), 0);
        x = threeTimes();
        x.arrive(0, 1, 1, 1);
        Check.same("5040 stays", x.virtualTime(1), 5040);
    }

    private static void virtualTimeOfAFullQueue() {
        Check.sentence("If the queue was empty");
        HomeGateway x = threeTimes();
        x.arrive(0, 3, 1, 1);
        x.arrive(0, 2, 1, 1);
        x.arrive(0, 3, 1, 1);
        Check.same("0 stays: its queue was not empty", x.virtualTime(3), 0);
        x = Check.loaded("gateway 9 9;device home 1 0 0;device iot 1 0 0;limit 1;deny any any 7 7;");
        x.arrive(0, 0, 1, 1);
        x.tick(1);
        x.arrive(0, 0, 1, 1);
        x.arrive(0, 1, 7, 1);
        Check.same("a rejected packet", x.virtualTime(1), 0);
        x.arrive(0, 1, 1, 2);
        Check.same("a dropped packet", x.virtualTime(1), 0);
        x.sleep(1);
        x.arrive(0, 1, 1, 1);
        Check.same("a proxied packet", x.virtualTime(1), 0);
    }

    private static void sleepersCountToo() {
        Check.sentence("the smallest virtual time of all devices whose queues are not empty");
        HomeGateway x = threeTimes();
        x.arrive(0, 1, 1, 1);
        x.sleep(1);
        x.arrive(0, 3, 1, 1);
        Check.same("a sleeper", x.virtualTime(3), 5040);
        HomeGateway y = Check.loaded("gateway 9 9;device home 1 0 0;device iot 1 0 0;quiet home 1 0;");
        y.arrive(0, 0, 1, 1);
        y.tick(1);
        y.arrive(0, 0, 1, 1);
        y.arrive(0, 1, 1, 1);
        Check.same("in a quiet hour", y.virtualTime(1), 2520);
    }

    private static void packetWakes() {
        Check.sentence("If the receiver is ASLEEP, it becomes WAKING, and its wait is its wake delay");
        for (int delay = 0; delay <= 9; delay += 3) {
            HomeGateway x = Check.loaded("gateway 9 9;device home 1 " + delay + " 0;wake 5;");
            x.sleep(0);
            Check.same("arrive", x.arrive(0, 0, 5, 1), QUEUED);
            Check.same("waking", x.state(0), HomeGateway.WAKING);
            if (delay > 0) {
                x.tick(delay);
                Check.same("after " + delay + " ticks of " + delay, x.state(0), HomeGateway.WAKING);
            }
            Check.same("one tick later", x.tick(1), 1);
            Check.same("awake", x.state(0), HomeGateway.AWAKE);
        }
        HomeGateway y = Check.loaded("gateway 9 9;device home 1 2 0;wake 5;");
        y.arrive(0, 0, 5, 1);
        Check.same("awake stays awake", y.state(0), HomeGateway.AWAKE);
        y.sleep(0);
        Check.same("with a queue", y.arrive(0, 0, 5, 1), QUEUED);
        Check.same("waking", y.state(0), HomeGateway.WAKING);
    }

    private static void packetLeavesTheWakingAlone() {
        Check.sentence("If the receiver is ASLEEP: a WAKING one goes on waking");
        HomeGateway x = Check.loaded("gateway 9 9;device home 1 2 0;wake 5;");
        x.sleep(0);
        x.wake(0);
        x.tick(2);
        Check.same("arrive", x.arrive(0, 0, 5, 1), QUEUED);
        Check.same("the wait is over", x.tick(1), 1);
    }

    private static void counts() {
        Check.sentence("Returns the number of packets that have been rejected, proxied, dropped since load");
        HomeGateway x = Check.loaded("gateway 9 9;device home 1 0 0;device iot 1 0 0;limit 1;");
        x.sleep(1);
        for (int i = 1; i <= 30; i++) {
            x.arrive(-1, 0, 1, 1);
            Check.same("rejected", x.rejected(), i);
            x.arrive(0, 1, 1, 1);
            Check.same("proxied", x.proxied(), i);
            x.arrive(0, 0, 1, 2);
            Check.same("dropped", x.dropped(), i);
        }
        x.arrive(0, 0, 1, 1);
        Check.same("a queued one", x.rejected() + x.proxied() + x.dropped(), 90);
    }

    private static void sleepRefused() {
        Check.sentence("sleep: Throws IndexOutOfBoundsException if there is no such device");
        for (int device : NO_DEVICE) {
            Story.outside("sleep(" + device + ")", Scenes::young, x -> x.sleep(device));
            Story.outside("sleep(" + device + ")", Scenes::busy, x -> x.sleep(device));
        }
        Story.outside("no devices", Scenes::bare, x -> x.sleep(0));
        Story.outside("no gateway", Scenes::empty, x -> x.sleep(0));
        Check.sentence("sleep: Throws IllegalStateException if it is ASLEEP");
        Story.state("sleep(1)", Scenes::young, x -> x.sleep(1));
        Story.state("sleep(1)", Scenes::busy, x -> x.sleep(1));
    }

    private static void sleepInside() {
        Check.sentence("Puts a device to sleep: it becomes ASLEEP. Its queue stays. Returns its state before");
        HomeGateway x = Scenes.busy();
        Check.same("awake", x.sleep(0), HomeGateway.AWAKE);
        Check.same("state", x.state(0), HomeGateway.ASLEEP);
        Check.same("queueLength", x.queueLength(0), 2);
        Check.same("backlog", x.backlog(0), 8);
        Check.same("waking", x.sleep(2), HomeGateway.WAKING);
        Check.same("state", x.state(2), HomeGateway.ASLEEP);
        Check.same("queueLength", x.queueLength(2), 2);
        Check.same("the last", x.sleep(N - 1), HomeGateway.AWAKE);
        Check.same("others", x.state(1), HomeGateway.ASLEEP);
        Check.same("nobody is served", x.tick(50), 0);
    }

    private static void wakeRefused() {
        Check.sentence("wake: Throws IndexOutOfBoundsException if there is no such device");
        for (int device : NO_DEVICE) {
            Story.outside("wake(" + device + ")", Scenes::young, x -> x.wake(device));
            Story.outside("wake(" + device + ")", Scenes::busy, x -> x.wake(device));
        }
        Story.outside("no devices", Scenes::bare, x -> x.wake(0));
        Story.outside("no gateway", Scenes::empty, x -> x.wake(0));
        Check.sentence("wake: Throws IllegalStateException if it is not ASLEEP");
        Story.state("awake", Scenes::young, x -> x.wake(0));
        Story.state("awake", Scenes::busy, x -> x.wake(0));
        Story.state("waking", Scenes::busy, x -> x.wake(2));
    }

    private static void wakeInside() {
        Check.sentence("Wakes a device: it becomes WAKING, and its wait is its wake delay. Returns its wake delay");
        HomeGateway x = Check.loaded("gateway 9 9;device home 1 0 0;device iot 1 1 0;device iot 1 9 0;");
        int[] delays = {0, 1, 9};
        for (int device = 0; device < 3; device++) {
            x.sleep(device);
            Check.same("wake", x.wake(device), delays[device]);
            Check.same("state", x.state(device), HomeGateway.WAKING);
        }
        for (int tick = 1; tick <= 10; tick++) {
            x.tick(1);
            for (int device = 0; device < 3; device++) {
                Check.same("delay " + delays[device] + " after " + tick, x.state(device),
                        tick > delays[device] ? HomeGateway.AWAKE : HomeGateway.WAKING);
            }
        }
        x.sleep(2);
        x.wake(2);
        x.tick(5);
        x.sleep(2);
        x.wake(2);
        x.tick(9);
        Check.same("the wait begins anew", x.state(2), HomeGateway.WAKING);
        x.tick(1);
        Check.same("and ends", x.state(2), HomeGateway.AWAKE);
    }

    private static void weightRefused() {
        Check.sentence("setWeight: Throws IndexOutOfBoundsException if there is no such device");
        for (int device : NO_DEVICE) {
            Story.outside("setWeight(" + device + ", 5)", Scenes::young, x -> x.setWeight(device, 5));
            Story.outside("setWeight(" + device + ", 5)", Scenes::busy, x -> x.setWeight(device, 5));
            Story.outside("setWeight(" + device + ", 0)", Scenes::busy, x -> x.setWeight(device, 0));
            Story.outside("setWeight(" + device + ", 10)", Scenes::busy, x -> x.setWeight(device, 10));
        }
        Story.outside("no gateway", Scenes::empty, x -> x.setWeight(0, 5));
        Check.sentence("setWeight: Throws IllegalArgumentException if weight is out of range");
        for (int weight : new int[] {Integer.MIN_VALUE, -1, 0, 10, Integer.MAX_VALUE}) {
            Story.argument("setWeight(0, " + weight + ")", Scenes::young, x -> x.setWeight(0, weight));
            Story.argument("setWeight(3, " + weight + ")", Scenes::busy, x -> x.setWeight(3, weight));
        }
    }

    private static void weightInside() {
        Check.sentence("Sets the weight of a device. Returns the previous weight");
        HomeGateway x = Check.loaded("gateway 99 9;device home 5 0 0;device iot 6 0 0;");
        Check.same("to 1", x.setWeight(0, 1), 5);
        Check.same("to 9", x.setWeight(0, 9), 1);
        Check.same("to the same", x.setWeight(0, 9), 9);
        Check.same("weight", x.weight(0), 9);
        Check.same("of the other", x.weight(1), 6);
        Check.same("of the last", x.setWeight(1, 2), 6);
        x.arrive(0, 0, 1, 9);
        x.tick(1);
        Check.same("virtualTime", x.virtualTime(0), 2520);
        x.setWeight(0, 1);
        Check.same("virtualTime stays", x.virtualTime(0), 2520);
    }

    private static void manyPackets() {
        Check.sentence("An object is used for at most 512 calls after it has been made");
        HomeGateway x = Check.loaded("gateway 1 1;device home 1 0 0;limit 999;");
        int calls = 3;
        for (int i = 1; calls < 510; calls++, i++) {
            Check.same("packet " + i, x.arrive(0, 0, 1, 1), QUEUED);
        }
        Check.same("queueLength", x.queueLength(0), 507);
        Check.same("the 512th call", x.backlog(0), 507);
        HomeGateway y = Check.loaded("gateway 100 1;device home 1 0 0;limit 999;");
        for (int i = 0; i < 506; i++) {
            y.arrive(0, 0, 1, 1);
        }
        Check.same("the first 500 leave", y.tick(5), 500);
        Check.same("the 512th call", y.queueLength(0), 6);
    }
}
