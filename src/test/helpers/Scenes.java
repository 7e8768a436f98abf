/** Objects in states that the tests of refused calls begin from. */
final class Scenes {
    /** Four devices, two rules; 9 is the wake port. */
    static final String HOUSE = "gateway 7 6;device home 2 1 9;device guest 1 0 3;device iot 3 2 0;"
            + "device guest 1 3 4;allow net any 80 90;deny iot home 0 999;wake 9;quiet guest 2 0;limit 40;";
    static final int DEVICES = 4;
    static final int RULES = 2;
    /** Waits in the buffer of every scene. */
    static final String NEXT = "gateway 3 2;device iot 9 0 0;deny any any 7 7;";

    private Scenes() {
    }

    /** A new object, with a text in its buffer. */
    static HomeGateway empty() {
        HomeGateway x = new HomeGateway();
        Check.append(x, NEXT);
        return x;
    }

    /** A gateway that has been undone. */
    static HomeGateway undone() {
        HomeGateway x = Check.loaded(HOUSE);
        x.undo();
        Check.append(x, NEXT);
        return x;
    }

    /** Three changes can be undone, an error offset is set. */
    static HomeGateway young() {
        HomeGateway x = Check.loaded(HOUSE);
        x.arrive(0, 2, 1, 4);
        x.sleep(1);
        Check.load(x, "gateway 5;");
        Check.append(x, NEXT);
        return x;
    }

    /**
     * Eight changes can be undone, and more were made. Device 0 is awake with packets, 1 asleep,
     * 2 waking with a packet, 3 idle for one tick.
     */
    static HomeGateway busy() {
        HomeGateway x = Check.loaded(HOUSE);
        x.arrive(0, 2, 1, 4);
        x.arrive(0, 0, 1, 5);
        x.arrive(-1, 0, 80, 2);
        x.arrive(0, 0, 1, 6);
        x.arrive(2, 0, 1, 6);
        x.tick(1);
        x.sleep(1);
        x.arrive(0, 1, 1, 6);
        x.sleep(2);
        x.wake(2);
        x.arrive(0, 2, 1, 7);
        x.arrive(0, 0, 1, 40);
        Check.append(x, NEXT);
        return x;
    }

    /** As many rules as there can be. */
    static HomeGateway fullOfRules() {
        HomeGateway x = Check.loaded(HOUSE);
        for (int i = RULES; i < 12; i++) {
            x.addRule(i % 2 == 0, i % 5, i % 3, 10 * i, 10 * i + 9);
        }
        Check.append(x, NEXT);
        return x;
    }

    /** A gateway without devices and rules. */
    static HomeGateway bare() {
        HomeGateway x = Check.loaded("gateway 5 6;");
        Check.append(x, NEXT);
        return x;
    }
}
