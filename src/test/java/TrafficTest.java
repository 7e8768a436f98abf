/** Promises 7 to 18 and 23 to 29: packets, ticks, sleeping, waking, quiet hours, fairness, drainTime. */
public final class TrafficTest {
    private TrafficTest() {
    }

    public static void main(String[] args) {
        noSuchDevice();
        arriveWrongInputs();
        arriveSteps();
        limitIsPerQueue();
        proxyAndWakePorts();
        droppedPacketDoesNotWake();
        catchUp();
        servingOrder();
        bigPacketEndsTheStep();
        budgetIsNotKept();
        wakingTakesItsDelay();
        fallingAsleep();
        sleepAndWake();
        quietHours();
        quietHoldsPacketsBack();
        delays();
        weights();
        fairness();
        drainTime();
        tickWrongInputs();
        manyTicks();
        Check.end();
    }

    private static void noSuchDevice() {
        HomeGateway x = Check.loaded("gateway 5 5;device home 3 1 1;device iot 4 2 2;");
        for (int i : new int[] {-1, 2, 10, Integer.MIN_VALUE, Integer.MAX_VALUE}) {
            Check.outside("8 state " + i, () -> x.state(i));
            Check.outside("9 weight " + i, () -> x.weight(i));
            Check.outside("10 queueLength " + i, () -> x.queueLength(i));
            Check.outside("11 backlog " + i, () -> x.backlog(i));
            Check.outside("12 virtualTime " + i, () -> x.virtualTime(i));
            Check.outside("13 delivered " + i, () -> x.delivered(i));
            Check.outside("14 longestDelay " + i, () -> x.longestDelay(i));
            Check.outside("27 sleep " + i, () -> x.sleep(i));
            Check.outside("28 wake " + i, () -> x.wake(i));
            Check.outside("29 setWeight " + i, () -> x.setWeight(i, 0));
        }
        Check.same("8 state", x.state(1), HomeGateway.AWAKE);
        Check.same("9 weight", x.weight(1), 4);
        Check.same("14 longestDelay", x.longestDelay(1), -1);
        Check.same("33 only the load", x.undo(), 0);
    }

    private static void arriveWrongInputs() {
        HomeGateway x = Check.loaded("gateway 5 5;device home 1 1 1;");
        Check.outside("25 from -2", () -> x.arrive(-2, 0, 0, 1));
        Check.outside("25 from 1", () -> x.arrive(1, 0, 0, 1));
        Check.outside("25 to -1", () -> x.arrive(0, -1, 0, 1));
        Check.outside("25 to 1", () -> x.arrive(0, 1, 0, 1));
        Check.outside("25 to 1, wrong port", () -> x.arrive(0, 1, 1000, 0));
        Check.argument("25 port -1", () -> x.arrive(0, 0, -1, 1));
        Check.argument("25 port 1000", () -> x.arrive(0, 0, 1000, 1));
        Check.argument("25 size 0", () -> x.arrive(0, 0, 0, 0));
        Check.argument("25 size 100", () -> x.arrive(0, 0, 0, 100));
        Check.argument("25 size 0 from the internet", () -> x.arrive(-1, 0, 0, 0));
        Check.same("25 nothing came", x.queueLength(0) + x.rejected(), 0);
        Check.same("25 size 99, port 999", x.arrive(0, 0, 999, 99), 0);
        Check.same("25 size 1, port 0", x.arrive(0, 0, 0, 1), 0);
        Check.same("33 three changes", x.undo(), 2);
    }

    private static void arriveSteps() {
        HomeGateway x = Check.loaded("gateway 5 5;device home 1 1 1;device guest 1 1 1;deny any any 7 7;"
                + "limit 10;");
        Check.same("25 net", x.arrive(-1, 0, 1, 1), 1);
        Check.same("25 isolated", x.arrive(1, 0, 1, 1), 1);
        Check.same("25 denied", x.arrive(0, 0, 7, 99), 1);
        Check.same("15 rejected", x.rejected(), 3);
        x.sleep(0);
        Check.same("25 rejected before proxied", x.arrive(-1, 0, 1, 99), 1);
        Check.same("25 proxied before dropped", x.arrive(0, 0, 1, 99), 2);
        Check.same("16 proxied", x.proxied(), 1);
        Check.same("17 dropped", x.dropped(), 0);
        Check.same("25 dropped", x.arrive(0, 1, 1, 11), 3);
        Check.same("25 up to the limit", x.arrive(0, 1, 1, 10), 0);
        Check.same("25 above the limit", x.arrive(0, 1, 1, 1), 3);
        Check.same("15 rejected", x.rejected(), 4);
        Check.same("16 proxied", x.proxied(), 1);
        Check.same("17 dropped", x.dropped(), 2);
        Check.same("10 queueLength", x.queueLength(1), 1);
        Check.same("11 backlog", x.backlog(1), 10);
    }

    private static void limitIsPerQueue() {
        HomeGateway x = Check.loaded("gateway 5 5;device home 1 1 0;device iot 1 1 0;limit 999;");
        for (int i = 0; i < 10; i++) {
            Check.same("25 fill", x.arrive(0, 0, 1, 99), 0);
            Check.same("25 fill", x.arrive(0, 1, 1, 99), 0);
        }
        Check.same("25 too much", x.arrive(0, 0, 1, 10), 3);
        Check.same("25 just enough", x.arrive(0, 0, 1, 9), 0);
        Check.same("11 backlog", x.backlog(0), 999);
        Check.same("11 backlog", x.backlog(1), 990);
        Check.same("10 queueLength", x.queueLength(0), 11);
        HomeGateway y = Check.loaded("gateway 1 5;device home 1 1 0;limit 999;");
        for (int i = 0; i < 450; i++) {
            Check.same("25 small ones", y.arrive(0, 0, 1, 1), 0);
        }
        Check.same("10 many packets", y.queueLength(0), 450);
        Check.same("26 one a tick", y.tick(100), 100);
        Check.same("10 fewer packets", y.queueLength(0), 350);
        Check.same("14 delay", y.longestDelay(0), 99);
    }

    private static void proxyAndWakePorts() {
        HomeGateway x = Check.loaded("gateway 5 5;device home 1 2 0;wake 9 0 999 5 6 7 8 10;");
        x.sleep(0);
        Check.same("25 no wake port", x.arrive(0, 0, 11, 1), 2);
        Check.same("8 still asleep", x.state(0), HomeGateway.ASLEEP);
        Check.same("10 nothing kept", x.queueLength(0), 0);
        Check.same("25 wake port", x.arrive(0, 0, 10, 1), 0);
        Check.same("8 waking", x.state(0), HomeGateway.WAKING);
        Check.same("25 waking takes any port", x.arrive(0, 0, 11, 1), 0);
        Check.same("16 proxied", x.proxied(), 1);
        Check.same("26 tick", x.tick(1), 0);
        Check.same("26 tick", x.tick(1), 0);
        Check.same("8 waking", x.state(0), HomeGateway.WAKING);
        Check.same("26 awake and served in one tick", x.tick(1), 2);
        Check.same("8 awake", x.state(0), HomeGateway.AWAKE);
    }

    private static void droppedPacketDoesNotWake() {
        HomeGateway x = Check.loaded("gateway 5 5;device home 1 0 0;wake 9;limit 5;");
        x.arrive(0, 0, 1, 4);
        x.sleep(0);
        Check.same("27 the queue stays", x.backlog(0), 4);
        Check.same("25 dropped", x.arrive(0, 0, 9, 2), 3);
        Check.same("8 asleep", x.state(0), HomeGateway.ASLEEP);
        Check.same("26 nobody is served", x.tick(5), 0);
        Check.same("25 wakes", x.arrive(0, 0, 9, 1), 0);
        Check.same("26 both", x.tick(1), 2);
        Check.same("14 delay", x.longestDelay(0), 5);
    }

    private static void catchUp() {
        HomeGateway x = Check.loaded("gateway 10 5;device home 1 0 0;device iot 2 0 0;device iot 1 0 0;");
        x.arrive(0, 0, 1, 10);
        x.tick(1);
        Check.same("12 virtual time", x.virtualTime(0), 25200);
        x.arrive(0, 1, 1, 10);
        Check.same("25 stays without others", x.virtualTime(1), 0);
        x.tick(1);
        Check.same("12 virtual time", x.virtualTime(1), 12600);
        x.arrive(0, 0, 1, 10);
        Check.same("25 stays alone", x.virtualTime(0), 25200);
        x.arrive(0, 2, 1, 1);
        Check.same("25 becomes the smallest", x.virtualTime(2), 25200);
        x.arrive(0, 1, 1, 1);
        Check.same("25 becomes the smallest of two", x.virtualTime(1), 25200);
        x.arrive(0, 1, 1, 1);
        x.sleep(0);
        x.tick(1);
        Check.same("12 virtual time", x.virtualTime(1), 27720);
        Check.same("12 virtual time", x.virtualTime(2), 27720);
        x.arrive(0, 2, 1, 1);
        Check.same("25 never falls back", x.virtualTime(2), 27720);
        x.arrive(0, 2, 1, 1);
        Check.same("25 not if the queue is not empty", x.virtualTime(2), 27720);
    }

    private static void servingOrder() {
        HomeGateway x = Check.loaded("gateway 6 5;device home 1 0 0;device iot 2 0 0;device iot 1 0 0;");
        for (int i = 0; i < 4; i++) {
            x.arrive(0, 2, 1, 2);
            x.arrive(0, 1, 1, 2);
        }
        Check.same("26 tick", x.tick(1), 3);
        Check.same("26 the smallest index of equals", x.delivered(1), 4);
        Check.same("26 the smallest time then", x.delivered(2), 2);
        Check.same("12 virtual time", x.virtualTime(1), 5040);
        Check.same("12 virtual time", x.virtualTime(2), 5040);
        Check.same("26 tick", x.tick(1), 3);
        Check.same("13 delivered", x.delivered(1), 8);
        Check.same("13 delivered", x.delivered(2), 4);
        Check.same("13 delivered", x.delivered(0), 0);
    }

    private static void bigPacketEndsTheStep() {
        HomeGateway x = Check.loaded("gateway 5 5;device home 1 0 0;device iot 1 0 0;");
        x.arrive(0, 0, 1, 6);
        x.arrive(0, 1, 1, 1);
        Check.same("26 the first in turn is too big", x.tick(3), 0);
        Check.same("10 nothing moved", x.queueLength(1), 1);
        x.sleep(0);
        Check.same("26 another one in turn", x.tick(1), 1);
    }

    private static void budgetIsNotKept() {
        HomeGateway x = Check.loaded("gateway 5 5;device home 1 0 0;");
        for (int i = 0; i < 4; i++) {
            x.arrive(0, 0, 1, 3);
        }
        x.arrive(0, 0, 1, 2);
        Check.same("26 one of two", x.tick(1), 1);
        Check.same("26 one of two", x.tick(2), 2);
        Check.same("26 just the budget", x.tick(1), 2);
        HomeGateway y = Check.loaded("gateway 999 5;device home 1 0 0;");
        y.arrive(0, 0, 1, 99);
        y.arrive(0, 0, 1, 99);
        Check.same("26 all at once", y.tick(1), 2);
    }

    private static void wakingTakesItsDelay() {
        HomeGateway x = Check.loaded("gateway 5 5;device home 1 3 0;device iot 1 0 0;");
        x.sleep(0);
        x.sleep(1);
        Check.same("28 wake", x.wake(0), 3);
        Check.same("28 wake", x.wake(1), 0);
        x.tick(1);
        Check.same("8 delay 0", x.state(1), HomeGateway.AWAKE);
        x.tick(2);
        Check.same("8 delay 3", x.state(0), HomeGateway.WAKING);
        x.tick(1);
        Check.same("8 delay 3", x.state(0), HomeGateway.AWAKE);
        x.sleep(0);
        x.wake(0);
        x.tick(2);
        x.sleep(0);
        x.wake(0);
        x.tick(3);
        Check.same("28 the wait starts anew", x.state(0), HomeGateway.WAKING);
        x.tick(1);
        Check.same("28 the wait starts anew", x.state(0), HomeGateway.AWAKE);
    }

    private static void fallingAsleep() {
        HomeGateway x = Check.loaded("gateway 5 5;device home 1 0 3;device iot 1 0 0;device guest 1 0 1;");
        x.arrive(0, 0, 1, 5);
        x.arrive(0, 0, 1, 5);
        x.tick(1);
        Check.same("26 patience 1", x.state(2), HomeGateway.ASLEEP);
        x.tick(1);
        x.tick(2);
        Check.same("26 idle for 2 ticks", x.state(0), HomeGateway.AWAKE);
        x.arrive(0, 0, 1, 5);
        x.tick(3);
        Check.same("26 a delivery resets it", x.state(0), HomeGateway.AWAKE);
        x.tick(1);
        Check.same("26 idle for 3 ticks", x.state(0), HomeGateway.ASLEEP);
        x.wake(0);
        x.tick(2);
        Check.same("26 idle from 0 on", x.state(0), HomeGateway.AWAKE);
        x.tick(1);
        Check.same("26 asleep again", x.state(0), HomeGateway.ASLEEP);
        x.tick(100);
        Check.same("26 patience 0", x.state(1), HomeGateway.AWAKE);
        HomeGateway y = Check.loaded("gateway 5 5;device home 1 0 2;");
        y.tick(1);
        y.arrive(0, 0, 1, 6);
        y.tick(9);
        Check.same("26 a full queue keeps awake", y.state(0), HomeGateway.AWAKE);
    }

    private static void sleepAndWake() {
        HomeGateway x = Check.loaded("gateway 5 5;device home 1 9 2;");
        Check.state("28 awake", () -> x.wake(0));
        Check.same("27 awake", x.sleep(0), HomeGateway.AWAKE);
        Check.state("27 asleep", () -> x.sleep(0));
        Check.same("28 wake", x.wake(0), 9);
        Check.state("28 waking", () -> x.wake(0));
        Check.same("27 waking", x.sleep(0), HomeGateway.WAKING);
        Check.same("8 asleep", x.state(0), HomeGateway.ASLEEP);
        Check.same("33 three changes after load", x.undo(), 3);
    }

    private static String quietDay(String hours, int ticks) {
        HomeGateway x = Check.loaded("gateway 5 6;quiet guest " + hours + ";");
        StringBuilder seen = new StringBuilder();
        for (int i = 0; i < ticks; i++) {
            seen.append(x.isQuiet(HomeGateway.GUEST) ? 'q' : '-');
            Check.no("18 another group", x.isQuiet(HomeGateway.HOME) || x.isQuiet(HomeGateway.IOT));
            x.tick(1);
        }
        return seen.toString();
    }

    private static void quietHours() {
        Check.same("18 1 3", quietDay("1 3", 12), "-qq----qq---");
        Check.same("18 0 5", quietDay("0 5", 12), "qqqqq-qqqqq-");
        Check.same("18 4 1", quietDay("4 1", 12), "q---qqq---qq");
        Check.same("18 5 0", quietDay("5 0", 12), "-----q-----q");
        Check.same("18 2 2", quietDay("2 2", 12), "------------");
        HomeGateway x = new HomeGateway();
        Check.no("18 without a gateway", x.isQuiet(2));
        Check.argument("18 group 3", () -> x.isQuiet(3) ? 1 : 0);
        Check.argument("18 group -1", () -> x.isQuiet(-1) ? 1 : 0);
    }

    private static void quietHoldsPacketsBack() {
        HomeGateway x = Check.loaded("gateway 5 4;device home 1 0 2;device iot 1 0 0;quiet home 0 2;");
        x.arrive(0, 0, 1, 1);
        x.arrive(0, 1, 1, 1);
        Check.same("26 only the other one", x.tick(1), 1);
        Check.same("26 nobody", x.tick(1), 0);
        Check.same("26 after the quiet hours", x.tick(1), 1);
        Check.same("14 delay", x.longestDelay(0), 2);
        Check.same("8 not idle meanwhile", x.state(0), HomeGateway.AWAKE);
    }

    private static void delays() {
        HomeGateway x = Check.loaded("gateway 5 5;device home 1 0 0;");
        x.tick(7);
        x.arrive(0, 0, 1, 5);
        x.arrive(0, 0, 1, 5);
        Check.same("14 none yet", x.longestDelay(0), -1);
        x.tick(1);
        Check.same("14 at once", x.longestDelay(0), 0);
        x.tick(1);
        Check.same("14 one tick later", x.longestDelay(0), 1);
        x.arrive(0, 0, 1, 5);
        x.tick(1);
        Check.same("14 the greatest stays", x.longestDelay(0), 1);
    }

    private static void weights() {
        HomeGateway x = Check.loaded("gateway 99 5;device home 1 0 0;");
        Check.argument("29 weight 0", () -> x.setWeight(0, 0));
        Check.argument("29 weight 10", () -> x.setWeight(0, 10));
        Check.argument("29 weight -1", () -> x.setWeight(0, -1));
        long time = 0;
        for (int weight = 1; weight <= 9; weight++) {
            Check.same("29 previous", x.setWeight(0, weight), Math.max(1, weight - 1));
            Check.same("9 weight", x.weight(0), weight);
            x.arrive(0, 0, 1, 10 * weight + 3);
            x.tick(1);
            time += 2520L * (10 * weight + 3) / weight;
            Check.same("12 virtual time", x.virtualTime(0), time);
        }
    }

    private static void fairness() {
        HomeGateway x = Check.loaded("gateway 999 5;device home 2 0 0;device guest 1 0 0;device iot 3 0 0;");
        Check.same("23 nothing delivered", x.fairness(), 1000);
        x.arrive(0, 0, 1, 6);
        Check.same("23 nothing delivered yet", x.fairness(), 1000);
        x.tick(1);
        Check.same("23 one of three", x.fairness(), 333);
        x.arrive(0, 2, 1, 6);
        x.tick(1);
        Check.same("23 3 and 2", x.fairness(), 641);
        x.arrive(0, 1, 1, 3);
        x.arrive(0, 2, 1, 3);
        x.tick(1);
        Check.same("23 all alike", x.fairness(), 1000);
        x.setWeight(1, 9);
        Check.same("23 with the new weight", x.fairness(), 738);
        Check.same("23 without a gateway", new HomeGateway().fairness(), 1000);
        Check.same("23 without devices", Check.loaded("gateway 1 1;").fairness(), 1000);
        Check.same("23 in float", floatFairness(), floatDue());
    }

    private static final int[] SIZES = {97, 13, 71, 5, 33, 99};
    private static final int[] WEIGHTS = {7, 3, 9, 7, 6, 7};

    private static int floatFairness() {
        StringBuilder text = new StringBuilder("gateway 999 5;");
        for (int weight : WEIGHTS) {
            text.append("device home ").append(weight).append(" 0 0;");
        }
        HomeGateway x = Check.loaded(text.toString());
        for (int i = 0; i < SIZES.length; i++) {
            x.arrive(0, i, 1, SIZES[i]);
        }
        x.tick(1);
        return x.fairness();
    }

    private static int floatDue() {
        float s = 0.0f;
        float q = 0.0f;
        for (int i = 0; i < SIZES.length; i++) {
            float share = 1.0f * SIZES[i] / WEIGHTS[i];
            s = s + share;
            q = q + share * share;
        }
        return (int) (1000.0f * s * s / (SIZES.length * q));
    }

    private static void drainTime() {
        HomeGateway none = new HomeGateway();
        Check.argument("24 limit -1", () -> none.drainTime(-1));
        Check.argument("24 limit 301", () -> none.drainTime(301));
        Check.same("24 without a gateway", none.drainTime(300), 0);
        HomeGateway x = Check.loaded("gateway 5 4;device home 1 2 0;device iot 1 0 0;quiet iot 0 3;");
        Check.same("24 empty", x.drainTime(0), 0);
        x.arrive(0, 0, 1, 5);
        Check.same("24 one tick", x.drainTime(300), 1);
        Check.same("24 one tick", x.drainTime(1), 1);
        Check.same("24 no tick", x.drainTime(0), -1);
        x.arrive(0, 1, 1, 5);
        Check.same("24 after the quiet hours", x.drainTime(300), 4);
        Check.same("24 not enough", x.drainTime(3), -1);
        Check.same("24 just enough", x.drainTime(4), 4);
        x.sleep(0);
        Check.same("24 asleep", x.drainTime(300), -1);
        x.wake(0);
        x.arrive(0, 1, 1, 5);
        Check.same("24 the next day", x.drainTime(300), 8);
        long before = x.checksum();
        x.drainTime(300);
        Check.same("24 changes nothing", x.checksum(), before);
        Check.same("24 is no change", x.undo(), 5);
        farAway();
    }

    private static void farAway() {
        HomeGateway x = Check.loaded("gateway 1 5;device home 1 0 0;limit 999;");
        for (int i = 0; i < 300; i++) {
            x.arrive(0, 0, 1, 1);
        }
        Check.same("24 300 ticks", x.drainTime(300), 300);
        Check.same("24 299 ticks", x.drainTime(299), -1);
        x.arrive(0, 0, 1, 1);
        Check.same("24 301 packets", x.drainTime(300), -1);
    }

    private static void tickWrongInputs() {
        HomeGateway none = new HomeGateway();
        Check.argument("26 no gateway, ticks 0", () -> none.tick(0));
        Check.argument("26 no gateway, ticks 101", () -> none.tick(101));
        Check.state("26 no gateway", () -> none.tick(1));
        HomeGateway x = Check.loaded("gateway 1 1;");
        Check.argument("26 ticks 0", () -> x.tick(0));
        Check.argument("26 ticks -1", () -> x.tick(-1));
        Check.argument("26 ticks 101", () -> x.tick(101));
        Check.same("7 clock", x.clock(), 0);
        Check.same("26 ticks 100", x.tick(100), 0);
        Check.same("7 clock", x.clock(), 100);
        Check.same("33 two changes", x.undo(), 1);
    }

    private static void manyTicks() {
        HomeGateway x = Check.loaded("gateway 1 100;device home 1 0 0;quiet home 99 0;");
        for (int i = 1; i <= 500; i++) {
            x.tick(100);
        }
        Check.same("7 clock", x.clock(), 50000);
        x.tick(99);
        Check.yes("18 hour 99", x.isQuiet(0));
        clockHasAnEnd();
    }

    /** No run of 512 calls comes this far; the promise is kept all the same. */
    private static void clockHasAnEnd() {
        HomeGateway x = Check.loaded("gateway 1 100;");
        for (int i = 1; i < 1000; i++) {
            x.tick(100);
        }
        x.tick(99);
        Check.state("26 100001", () -> x.tick(2));
        Check.same("26 100000", x.tick(1), 0);
        Check.state("26 100001", () -> x.tick(1));
        Check.argument("26 ticks 0", () -> x.tick(0));
        Check.same("7 clock", x.clock(), 100000);
    }
}
