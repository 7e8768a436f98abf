/**
 * The sentences of the document on the setup text that name a bound, each at the case just inside and
 * at the one just outside; a text with an error is read by a busy gateway too, which must not notice.
 */
public final class SetupBoundsTest {
    private static final int SYNTAX = HomeGateway.SYNTAX_ERROR;
    private static final int RANGE = HomeGateway.OUT_OF_RANGE;
    private static final int MANY = HomeGateway.TOO_MANY;
    private static final String HEAD = "gateway 7 24;";
    private static final String[] GROUPS = {"home", "guest", "iot"};
    private static final String[] SELECTORS = {"home", "guest", "iot", "net", "any"};

    private SetupBoundsTest() {
    }

    public static void main(String[] args) {
        tenDevices();
        groupsOfDevices();
        weightOfDevice();
        wakeDelayOfDevice();
        patienceOfDevice();
        deviceAtFirst();
        rate();
        ticksOfDay();
        twelveRules();
        selectors();
        portsOfRules();
        highestNotBelowLowest();
        rulesInOrder();
        wakePortNumbers();
        eightWakePorts();
        wakePortTwice();
        limit();
        hoursOfQuiet();
        wakeAndLimitOnce();
        quietOncePerGroup();
        grammarOfSetup();
        grammarOfDevice();
        grammarOfRule();
        grammarOfWake();
        grammarOfQuiet();
        grammarOfLimit();
        numbers();
        words();
        otherWords();
        longRuns();
        spaces();
        noOtherByteSeparates();
        endsTooEarly();
        smallestOffsetCounts();
        firstKindCounts();
        Check.end();
    }

    private static HomeGateway good(String text, int devices, int rules) {
        HomeGateway x = new HomeGateway();
        Check.same("load of " + text, Check.load(x, text), devices);
        Check.same("errorOffset of " + text, x.errorOffset(), -1);
        Check.same("deviceCount of " + text, x.deviceCount(), devices);
        Check.same("ruleCount of " + text, x.ruleCount(), rules);
        return x;
    }

    private static HomeGateway good(String text) {
        return good(text, 0, 0);
    }

    /** A second error behind the first one does not count, so the text is read with one too. */
    private static void bad(String text, int code, int offset) {
        badText(text, code, offset);
        if (offset < text.length() && text.length() < 890) {
            badText(text + " ?", code, offset);
        }
    }

    private static void badText(String text, int code, int offset) {
        HomeGateway x = new HomeGateway();
        Check.same("load of " + text, Check.load(x, text), code);
        Check.same("errorOffset of " + text, x.errorOffset(), offset);
        Check.same("the buffer after " + text, x.append(0, 0, 0, 0, 0), 20);
        Story.leavesGateway("load of " + text, SetupBoundsTest::busy, y -> Check.load(y, text), code);
    }

    private static HomeGateway busy() {
        HomeGateway x = Scenes.busy();
        x.load(0);
        return x;
    }

    /** The text is wrong at the place of the sign '@', which is taken out. */
    private static void badAt(String marked, int code) {
        int offset = marked.indexOf('@');
        bad(marked.substring(0, offset) + marked.substring(offset + 1), code, offset);
    }

    private static void tenDevices() {
        Check.sentence("There are at most 10 devices");
        String nine = HEAD + "device iot 1 1 1;".repeat(9);
        good(nine, 9, 0);
        HomeGateway x = good(nine + "device home 8 0 0;", 10, 0);
        Check.same("weight(9)", x.weight(9), 8);
        Check.outside("weight(10)", () -> x.weight(10));
        Check.sentence("TOO_MANY: a device beyond the maximum number, at the first letter of its statement");
        String ten = nine + "device home 8 0 0;";
        badAt(ten + "@device home 8 0 0;", MANY);
        badAt(ten + "   @device home 8 0 0;limit 5;", MANY);
        badAt(ten + "limit 5;@device guest 1 1 1;device guest 1 1 1;", MANY);
        badAt(ten + "@device", MANY);
        badAt(ten + "@device net 0 10 100;", MANY);
    }

    /** A device is denied just the port that stands for its group. */
    private static void groupsOfDevices() {
        Check.sentence("each of one of the groups HOME, GUEST and IOT");
        for (int group = 0; group < 3; group++) {
            HomeGateway x = good(HEAD + "device " + GROUPS[group] + " 1 1 1;deny any home 0 0;deny any guest 1 1;"
                    + "deny any iot 2 2;", 1, 3);
            for (int port = 0; port < 3; port++) {
                Check.same("a " + GROUPS[group] + " at port " + port, x.verdict(0, 0, port), port == group ? 1 : 0);
            }
        }
        badAt(HEAD + "device @net 1 1 1;", SYNTAX);
        badAt(HEAD + "device @any 1 1 1;", SYNTAX);
        badAt(HEAD + "device @house 1 1 1;", SYNTAX);
        badAt(HEAD + "device @hom 1 1 1;", SYNTAX);
        badAt(HEAD + "device @homes 1 1 1;", SYNTAX);
        badAt(HEAD + "device @Home 1 1 1;", SYNTAX);
    }

    private static void weightOfDevice() {
        Check.sentence("A device has a weight (1 to 9)");
        Check.same("weight", good(HEAD + "device home 1 0 0;", 1, 0).weight(0), 1);
        Check.same("weight", good(HEAD + "device home 9 0 0;", 1, 0).weight(0), 9);
        badAt(HEAD + "device home @0 0 0;", RANGE);
        badAt(HEAD + "device home @10 0 0;", RANGE);
    }

    private static void wakeDelayOfDevice() {
        Check.sentence("a wake delay (0 to 9 ticks)");
        for (int delay = 0; delay <= 9; delay += 9) {
            HomeGateway x = good(HEAD + "device home 1 " + delay + " 0;", 1, 0);
            x.sleep(0);
            Check.same("wake", x.wake(0), delay);
        }
        badAt(HEAD + "device home 1 @10 0;", RANGE);
        badAt(HEAD + "device home 1 @-1 0;", SYNTAX);
    }

    private static void patienceOfDevice() {
        Check.sentence("a patience (0 to 99 ticks)");
        HomeGateway x = good(HEAD + "device home 1 0 99;device home 1 0 0;device home 1 0 1;", 3, 0);
        x.tick(1);
        Check.same("patience 1 after 1 tick", x.state(2), HomeGateway.ASLEEP);
        x.tick(97);
        Check.same("patience 99 after 98 ticks", x.state(0), HomeGateway.AWAKE);
        x.tick(1);
        Check.same("patience 99 after 99 ticks", x.state(0), HomeGateway.ASLEEP);
        Check.same("patience 0 after 99 ticks", x.state(1), HomeGateway.AWAKE);
        badAt(HEAD + "device home 1 0 @100;", RANGE);
        badAt(HEAD + "device home 1 0 @-1;", SYNTAX);
    }

    private static void deviceAtFirst() {
        Check.sentence("a state (AWAKE at first), a queue (empty at first), a virtual time (0 at first), "
                + "and an idle time (0 at first)");
        HomeGateway x = new HomeGateway();
        for (int round = 0; round < 2; round++) {
            Check.load(x, HEAD + "device home 1 3 2;");
            Check.same("state", x.state(0), HomeGateway.AWAKE);
            Check.same("queueLength", x.queueLength(0), 0);
            Check.same("backlog", x.backlog(0), 0);
            Check.same("virtualTime", x.virtualTime(0), 0);
            Check.same("delivered", x.delivered(0), 0);
            Check.same("longestDelay", x.longestDelay(0), -1);
            x.tick(1);
            Check.same("idle for 1 tick of 2", x.state(0), HomeGateway.AWAKE);
            x.tick(1);
            Check.same("idle for 2 ticks of 2", x.state(0), HomeGateway.ASLEEP);
            x.wake(0);
            x.arrive(0, 0, 1, 9);
            x.arrive(0, 0, 1, 5);
            x.tick(5);
        }
    }

    private static void rate() {
        Check.sentence("The budget is the rate (1 to 999)");
        HomeGateway x = good("gateway 1 24;device home 1 0 0;", 1, 0);
        x.arrive(0, 0, 1, 1);
        x.arrive(0, 0, 1, 1);
        Check.same("a rate of 1", x.tick(1), 1);
        HomeGateway y = good("gateway 999 24;device home 1 0 0;limit 999;device iot 9 0 0;", 2, 0);
        for (int i = 0; i < 10; i++) {
            y.arrive(0, 0, 1, 99);
        }
        y.arrive(0, 0, 1, 9);
        y.arrive(0, 1, 1, 1);
        Check.same("a rate of 999", y.tick(1), 11);
        Check.same("the rest", y.backlog(0) + y.backlog(1), 9);
        badAt("gateway @0 24;", RANGE);
        badAt("gateway @1000 24;", RANGE);
    }

    private static void ticksOfDay() {
        Check.sentence("A day has a fixed number of ticks (1 to 100)");
        good("gateway 7 1;quiet home 0 0;");
        HomeGateway x = good("gateway 7 100;quiet home 99 0;");
        x.tick(98);
        Check.no("hour 98", x.isQuiet(0));
        x.tick(1);
        Check.yes("hour 99", x.isQuiet(0));
        x.tick(1);
        Check.no("hour 0 of the next day", x.isQuiet(0));
        badAt("gateway 7 @0;", RANGE);
        badAt("gateway 7 @101;", RANGE);
    }

    private static void twelveRules() {
        Check.sentence("There are at most 12 rules");
        String eleven = HEAD + "allow any any 1 1;".repeat(5) + "deny any any 2 2;".repeat(6);
        good(eleven, 0, 11);
        HomeGateway x = good(eleven + "allow any any 3 3;", 0, 12);
        Check.same("the 12th", x.matching(0, 0, 3), 11);
        good(eleven + "deny any any 3 3;", 0, 12);
        Check.sentence("TOO_MANY: a rule beyond the maximum number, at the first letter of its statement");
        String twelve = eleven + "deny any any 3 3;";
        badAt(twelve + "@allow any any 1 1;", MANY);
        badAt(twelve + "@deny any any 1 1;", MANY);
        badAt(twelve + "  @deny", MANY);
        badAt(twelve + "device iot 1 1 1; @allow none", MANY);
        badAt(twelve + "@denys any any 1 1;", SYNTAX);
    }

    private static void selectors() {
        Check.sentence("A selector is a group or ANY");
        for (int from = 0; from < 5; from++) {
            for (int to = 0; to < 5; to++) {
                HomeGateway x = good(HEAD + "allow " + SELECTORS[from] + " " + SELECTORS[to] + " 5 6;", 0, 1);
                HomeGateway y = good(HEAD);
                y.addRule(true, from, to, 5, 6);
                Check.same(SELECTORS[from] + " " + SELECTORS[to], x.checksum(), y.checksum());
            }
        }
        badAt(HEAD + "allow @all any 5 6;", SYNTAX);
        badAt(HEAD + "allow any @nets 5 6;", SYNTAX);
        badAt(HEAD + "deny @an any 5 6;", SYNTAX);
        badAt(HEAD + "deny any @device 5 6;", SYNTAX);
        badAt(HEAD + "deny @0 any 5 6;", SYNTAX);
    }

    private static void portsOfRules() {
        Check.sentence("Ports are numbers from 0 to 999");
        HomeGateway x = good(HEAD + "deny any any 0 0;deny any any 999 999;deny any any 0 999;", 0, 3);
        Check.same("port 0", x.matching(0, 0, 0), 0);
        Check.same("port 1", x.matching(0, 0, 1), 2);
        Check.same("port 998", x.matching(0, 0, 998), 2);
        Check.same("port 999", x.matching(0, 0, 999), 1);
        badAt(HEAD + "allow any any @1000 1000;", RANGE);
        badAt(HEAD + "allow any any 999 @1000;", RANGE);
        badAt(HEAD + "deny any any @-1 5;", SYNTAX);
    }

    private static void highestNotBelowLowest() {
        Check.sentence("the lowest not above the highest");
        good(HEAD + "allow any any 500 500;", 0, 1);
        good(HEAD + "allow any any 500 501;", 0, 1);
        Check.sentence("OUT_OF_RANGE: a highest port that is less than the lowest one");
        badAt(HEAD + "allow any any 500 @499;", RANGE);
        badAt(HEAD + "deny any any 1 @0;", RANGE);
        badAt(HEAD + "deny any any 999   @00998;", RANGE);
    }

    private static void rulesInOrder() {
        Check.sentence("The rules stand in the order of their statements");
        HomeGateway x = good(HEAD + "deny any any 2 2;device iot 1 1 1;allow any any 1 2;limit 9;"
                + "deny any any 0 2;", 1, 3);
        Check.same("first", x.matching(0, 0, 2), 0);
        Check.same("second", x.matching(0, 0, 1), 1);
        Check.same("third", x.matching(0, 0, 0), 2);
    }

    private static boolean wakes(HomeGateway x, int port) {
        x.sleep(0);
        boolean woken = x.arrive(0, 0, port, 1) == 0;
        x.undo();
        x.undo();
        return woken;
    }

    private static void wakePortNumbers() {
        Check.sentence("wake gives wake ports");
        HomeGateway x = good(HEAD + "wake 0 999 500;device home 1 1 1;", 1, 0);
        for (int port : new int[] {0, 500, 999}) {
            Check.yes("port " + port, wakes(x, port));
        }
        for (int port : new int[] {1, 499, 501, 998}) {
            Check.no("port " + port, wakes(x, port));
        }
        Check.no("without a statement", wakes(good(HEAD + "device home 1 1 1;", 1, 0), 0));
        badAt(HEAD + "wake @1000;", RANGE);
        badAt(HEAD + "wake 999 @1000;", RANGE);
        badAt(HEAD + "wake @-1;", SYNTAX);
    }

    private static void eightWakePorts() {
        Check.sentence("There are at most 8 wake ports");
        HomeGateway x = good(HEAD + "device home 1 1 1;wake 10 20 30 40 50 60 70 80;", 1, 0);
        for (int port = 10; port <= 80; port += 10) {
            Check.yes("port " + port, wakes(x, port));
        }
        Check.sentence("TOO_MANY: the number of a 9th wake port, at its first digit");
        badAt(HEAD + "wake 10 20 30 40 50 60 70 80 @90;", MANY);
        badAt(HEAD + "wake 10 20 30 40 50 60 70 80   @90 100 110;", MANY);
        badAt(HEAD + "wake 10 20 30 40 50 60 70 80 @90", MANY);
    }

    private static void wakePortTwice() {
        Check.sentence("OUT_OF_RANGE: a wake port that is given twice");
        badAt(HEAD + "wake 5 @5;", RANGE);
        badAt(HEAD + "wake 0 1 2 3 4 5 6 @0;", RANGE);
        badAt(HEAD + "wake 7 8 @007;", RANGE);
        badAt(HEAD + "wake 1 2 3 4 5 6 7 @7", RANGE);
        good(HEAD + "wake 5 55 555 50;");
    }

    private static void limit() {
        Check.sentence("The limit is 1 to 999 (200 without a statement)");
        fillsUpTo(good(HEAD + "device home 1 1 1;limit 1;", 1, 0), 1);
        fillsUpTo(good(HEAD + "limit 999;device home 1 1 1;", 1, 0), 999);
        fillsUpTo(good(HEAD + "device home 1 1 1;", 1, 0), 200);
        badAt(HEAD + "limit @0;", RANGE);
        badAt(HEAD + "limit @1000;", RANGE);
    }

    private static void fillsUpTo(HomeGateway x, int limit) {
        for (int filled = 0; filled < limit; filled += Math.min(99, limit - filled)) {
            Check.same("up to " + limit, x.arrive(0, 0, 1, Math.min(99, limit - filled)), 0);
        }
        Check.same("above " + limit, x.arrive(0, 0, 1, 1), 3);
        Check.same("backlog", x.backlog(0), limit);
    }

    private static void hoursOfQuiet() {
        Check.sentence("the numbers of quiet are hours from 0 to the number of ticks of a day, minus 1");
        good("gateway 7 24;quiet home 0 23;quiet guest 23 0;quiet iot 23 23;");
        badAt("gateway 7 24;quiet home @24 0;", RANGE);
        badAt("gateway 7 24;quiet home 0 @24;", RANGE);
        good("gateway 7 1;quiet iot 0 0;");
        badAt("gateway 7 1;quiet iot @1 0;", RANGE);
        badAt("gateway 7 1;quiet iot 0 @1;", RANGE);
        good("gateway 7 100;quiet guest 99 99;");
        badAt("gateway 7 100;quiet guest @100 0;", RANGE);
        badAt("gateway 7 100;quiet guest 0 @100;", RANGE);
    }

    private static void wakeAndLimitOnce() {
        Check.sentence("The statements wake and limit may each occur once");
        good(HEAD + "wake 1;limit 1;");
        good(HEAD + "limit 1;wake 1;");
        Check.sentence("SYNTAX_ERROR: a second wake or limit, at its first letter");
        badAt(HEAD + "wake 1; @wake 2;", SYNTAX);
        badAt(HEAD + "wake 1;limit 1;@wake 1;", SYNTAX);
        badAt(HEAD + "wake 1;@wake", SYNTAX);
        badAt(HEAD + "limit 1; @limit 2;", SYNTAX);
        badAt(HEAD + "limit 1;wake 1;@limit 0;", SYNTAX);
        badAt(HEAD + "limit 200;@limit", SYNTAX);
        HomeGateway x = new HomeGateway();
        Check.load(x, HEAD + "wake 1;limit 1;quiet home 0 0;");
        Check.same("once in each text", Check.load(x, HEAD + "wake 1;limit 1;quiet home 0 0;"), 0);
    }

    private static void quietOncePerGroup() {
        Check.sentence("quiet once for each group");
        good(HEAD + "quiet iot 1 2;quiet home 1 2;quiet guest 1 2;");
        Check.sentence("SYNTAX_ERROR: the group of a second quiet statement for this group, at its first letter");
        for (String group : GROUPS) {
            badAt(HEAD + "quiet " + group + " 1 2;quiet   @" + group + " 3 4;", SYNTAX);
            badAt(HEAD + "quiet " + group + " 0 0;quiet @" + group, SYNTAX);
        }
        badAt(HEAD + "quiet home 1 2;quiet guest 1 2;quiet iot 1 2;quiet @guest 24 24;", SYNTAX);
    }

    private static void grammarOfSetup() {
        Check.sentence("setup = \"gateway\" number number \";\" { statement \";\" }");
        good("gateway 7 24;");
        good("gateway 7 24;limit 1;");
        badAt("@", SYNTAX);
        badAt("@;", SYNTAX);
        badAt("@limit 1;", SYNTAX);
        badAt("@7 24;", SYNTAX);
        badAt("@gatewa 7 24;", SYNTAX);
        badAt("@gateways 7 24;", SYNTAX);
        badAt("@gatewaz 7 24;", SYNTAX);
        badAt("gateway @;", SYNTAX);
        badAt("gateway @home 24;", SYNTAX);
        badAt("gateway 7@;", SYNTAX);
        badAt("gateway 7 @limit;", SYNTAX);
        badAt("gateway 7 24 @24;", SYNTAX);
        badAt("gateway 7 24 @limit 1;", SYNTAX);
        badAt("gateway 7 24;@;", SYNTAX);
        badAt("gateway 7 24;limit 1;@;", SYNTAX);
        badAt("gateway 7 24;@gateway 7 24;", SYNTAX);
        badAt("gateway 7 24;@7;", SYNTAX);
        badAt("gateway 7 24;@home;", SYNTAX);
        badAt("gateway 7 24;limit 1 @device home 1 1 1;", SYNTAX);
    }

    private static void grammarOfDevice() {
        Check.sentence("statement = \"device\" group number number number");
        good(HEAD + "device guest 1 1 1;", 1, 0);
        badAt(HEAD + "@devic guest 1 1 1;", SYNTAX);
        badAt(HEAD + "@devices guest 1 1 1;", SYNTAX);
        badAt(HEAD + "device @;", SYNTAX);
        badAt(HEAD + "device @1 1 1;", SYNTAX);
        badAt(HEAD + "device guest @guest 1 1;", SYNTAX);
        badAt(HEAD + "device guest@;", SYNTAX);
        badAt(HEAD + "device guest 1@;", SYNTAX);
        badAt(HEAD + "device guest 1 1@;", SYNTAX);
        badAt(HEAD + "device guest 1 1 1 @1;", SYNTAX);
    }

    private static void grammarOfRule() {
        Check.sentence("( \"allow\" | \"deny\" ) selector selector number number");
        Check.same("allow", good(HEAD + "device home 1 1 1;allow net home 1 1;", 1, 1).verdict(-1, 0, 1), 0);
        Check.same("deny", good(HEAD + "device home 1 1 1;deny home home 1 1;", 1, 1).verdict(0, 0, 1), 1);
        for (String word : new String[] {"allow", "deny"}) {
            badAt(HEAD + "@" + word + "s any any 1 1;", SYNTAX);
            badAt(HEAD + "@" + word.substring(1) + " any any 1 1;", SYNTAX);
            badAt(HEAD + word + "@;", SYNTAX);
            badAt(HEAD + word + " any @1 1;", SYNTAX);
            badAt(HEAD + word + " any any @any 1 1;", SYNTAX);
            badAt(HEAD + word + " any any@;", SYNTAX);
            badAt(HEAD + word + " any any 1@;", SYNTAX);
            badAt(HEAD + word + " any any 1 1 @1;", SYNTAX);
        }
    }

    private static void grammarOfWake() {
        Check.sentence("\"wake\" number { number }");
        good(HEAD + "wake 1;");
        good(HEAD + "wake 1 2;");
        badAt(HEAD + "@wak 1;", SYNTAX);
        badAt(HEAD + "@wakes 1;", SYNTAX);
        badAt(HEAD + "wake@;", SYNTAX);
        badAt(HEAD + "wake @any;", SYNTAX);
        badAt(HEAD + "wake 1 @any;", SYNTAX);
        badAt(HEAD + "wake 1 2 3 4 5 6 7 8 @any;", SYNTAX);
    }

    private static void grammarOfQuiet() {
        Check.sentence("\"quiet\" group number number");
        good(HEAD + "quiet home 1 2;");
        badAt(HEAD + "@quie home 1 2;", SYNTAX);
        badAt(HEAD + "@quiets home 1 2;", SYNTAX);
        badAt(HEAD + "quiet@;", SYNTAX);
        badAt(HEAD + "quiet @1 2;", SYNTAX);
        badAt(HEAD + "quiet @net 1 2;", SYNTAX);
        badAt(HEAD + "quiet @any 1 2;", SYNTAX);
        badAt(HEAD + "quiet home@;", SYNTAX);
        badAt(HEAD + "quiet home 1@;", SYNTAX);
        badAt(HEAD + "quiet home 1 2 @3;", SYNTAX);
        badAt(HEAD + "quiet home @guest 1 2;", SYNTAX);
    }

    private static void grammarOfLimit() {
        Check.sentence("\"limit\" number");
        good(HEAD + "limit 5;");
        badAt(HEAD + "@limi 5;", SYNTAX);
        badAt(HEAD + "@limits 5;", SYNTAX);
        badAt(HEAD + "limit@;", SYNTAX);
        badAt(HEAD + "limit @any;", SYNTAX);
        badAt(HEAD + "limit 5 @6;", SYNTAX);
    }

    private static void numbers() {
        Check.sentence("A number is a run of decimal digits");
        Check.same("0 and 9", good("gateway 90 24;device home 9 0 0;", 1, 0).weight(0), 9);
        good("gateway 0000000000000000000000999 000100;");
        good(HEAD + "wake 00 000000000000000000999;");
        badAt("gateway @/ 24;", SYNTAX);
        badAt("gateway @: 24;", SYNTAX);
        badAt("gateway 7@/ 24;", SYNTAX);
        badAt("gateway 7@: 24;", SYNTAX);
        badAt("gateway @+7 24;", SYNTAX);
        badAt("gateway @-7 24;", SYNTAX);
        badAt("gateway 7@.0 24;", SYNTAX);
        Check.sentence("OUT_OF_RANGE: a number outside its range, at its first digit");
        badAt("gateway @2147483648 24;", RANGE);
        badAt("gateway @4294967297 24;", RANGE);
        badAt("gateway @18446744073709551617 24;", RANGE);
        badAt("gateway @" + "9".repeat(80) + " 24;", RANGE);
        badAt("gateway   @0001000 24;", RANGE);
    }

    private static void words() {
        Check.sentence("a word is a run of the letters a to z");
        badAt("@Gateway 7 24;", SYNTAX);
        badAt("@gatewaY 7 24;", SYNTAX);
        badAt(HEAD + "limit @` 5;", SYNTAX);
        badAt(HEAD + "@{ 5;", SYNTAX);
        badAt(HEAD + "@` 5;", SYNTAX);
        badAt(HEAD + "limit@_ 5;", SYNTAX);
        badAt(HEAD + "limit@{ 5;", SYNTAX);
        badAt(HEAD + "limit@` 5;", SYNTAX);
        badAt(HEAD + "limit" + "@" + (char) 233 + ";", SYNTAX);
        badAt(HEAD + "@" + (char) ('l' + 128) + "imit 5;", SYNTAX);
    }

    /** Each letter of each word counts, and that there is none behind the last one. */
    private static void otherWords() {
        Check.sentence("a token that the grammar does not allow here, at its first byte");
        String[] texts = {"@gateway 7 24;", HEAD + "@device home 1 1 1;", HEAD + "@allow any any 1 1;",
            HEAD + "@deny any any 1 1;", HEAD + "@wake 1;", HEAD + "@quiet home 1 1;", HEAD + "@limit 1;",
            HEAD + "device @home 1 1 1;", HEAD + "device @guest 1 1 1;", HEAD + "device @iot 1 1 1;",
            HEAD + "allow @home any 1 1;", HEAD + "allow @guest any 1 1;", HEAD + "allow @iot any 1 1;",
            HEAD + "allow @net any 1 1;", HEAD + "allow any @any 1 1;", HEAD + "deny any @net 1 1;",
            HEAD + "quiet @home 1 1;", HEAD + "quiet @guest 1 1;", HEAD + "quiet @iot 1 1;"};
        for (String text : texts) {
            int start = text.indexOf('@') + 1;
            int end = text.indexOf(' ', start);
            for (int i = start; i < end; i++) {
                badAt(text.substring(0, i) + 'j' + text.substring(i + 1), SYNTAX);
            }
            badAt(text.substring(0, end) + 'a' + text.substring(end), SYNTAX);
            badAt(text.substring(0, end) + 'z' + text.substring(end), SYNTAX);
            badAt(text.substring(0, end - 1) + text.substring(end), SYNTAX);
        }
    }

    private static void longRuns() {
        Check.sentence("Each run is as long as possible");
        good("gateway7 24;device home9 9 99;allow any any1 1;wake1 2;quiet home1 2;limit5;", 1, 1);
        badAt("gateway 724@;", SYNTAX);
        badAt(HEAD + "device home @111;", RANGE);
        badAt(HEAD + "device home 1 00@;", SYNTAX);
        badAt(HEAD + "@devicehome 1 1 1;", SYNTAX);
        badAt(HEAD + "allow @anyany 1 1;", SYNTAX);
        badAt(HEAD + "limit 5@limit;", SYNTAX);
        badAt(HEAD + "limit @5555;", RANGE);
    }

    private static void spaces() {
        Check.sentence("Spaces (byte 32) may precede any token and may follow the last one");
        String plain = "gateway 7 24;device home 1 2 3;allow net any 80 85;deny iot guest 6 7;wake 8 9;"
                + "quiet home 2 4;limit 12;";
        String wide = "   " + plain.replace(";", " ; ").replace(" ", "    ");
        good(plain, 1, 2);
        good(wide, 1, 2);
        Check.same("wide", Story.futures(() -> Check.loaded(wide)), Story.futures(() -> Check.loaded(plain)));
        good("gateway 7 24;" + " ".repeat(887));
        good(" ".repeat(887) + "gateway 7 24;");
    }

    private static void noOtherByteSeparates() {
        Check.sentence("No other byte separates tokens");
        for (int other : new int[] {0, 9, 10, 11, 12, 13, 31, 33, 44, 127, 128, 160, 255}) {
            badAt("@" + (char) other + "gateway 7 24;", SYNTAX);
            badAt("gateway@" + (char) other + "7 24;", SYNTAX);
            badAt("gateway 7@" + (char) other + "24;", SYNTAX);
            badAt("gateway 7 24@" + (char) other + ";", SYNTAX);
            badAt("gateway 7 24;@" + (char) other + "limit 5;", SYNTAX);
            badAt("gateway 7 24; limit 5;  @" + (char) other, SYNTAX);
        }
    }

    /** After each token: only behind a semicolon a text may end. */
    private static void endsTooEarly() {
        Check.sentence("SYNTAX_ERROR: the end of the text, at its length, if the text ends too early");
        String[] tokens = ("gateway 7 24 ; device home 1 2 3 ; allow net any 4 5 ; deny iot guest 6 7 ; wake 8 9 ; "
                + "quiet iot 10 11 ; limit 12 ;").split(" ");
        StringBuilder text = new StringBuilder();
        for (String token : tokens) {
            text.append(token);
            for (int spaces = 0; spaces < 3; spaces++) {
                String cut = text + " ".repeat(spaces);
                if (token.equals(";")) {
                    Check.yes("load of " + cut, Check.load(new HomeGateway(), cut) >= 0);
                } else {
                    bad(cut, SYNTAX, cut.length());
                }
            }
            text.append(' ');
        }
        bad("", SYNTAX, 0);
        bad(" ", SYNTAX, 1);
        bad(" ".repeat(900), SYNTAX, 900);
        badAt("@gatewa", SYNTAX);
        badAt(HEAD + "@limi", SYNTAX);
    }

    private static void smallestOffsetCounts() {
        Check.sentence("The first error in the text is the one with the smallest offset");
        badAt("gateway @0 0;", RANGE);
        badAt("gateway @0", RANGE);
        badAt("gateway @1000 x", RANGE);
        badAt("gateway @x 0;", SYNTAX);
        badAt(HEAD + "limit @0 limit;", RANGE);
        badAt(HEAD + "limit @x;limit 0;", SYNTAX);
        badAt(HEAD + "allow any any @1000 0;", RANGE);
        badAt(HEAD + "quiet home 1 2;quiet @home 24 24;", SYNTAX);
        badAt(HEAD + "limit 1;@limit 0;", SYNTAX);
        badAt(HEAD + "wake 1 2 3 4 5 6 7 8 @9 1000;", MANY);
        badAt(HEAD + "wake 1 2 3 4 5 6 @1000 8 9 10;", RANGE);
        badAt(HEAD + "wake 1 2 3 4 5 6 7 8 @9 x", MANY);
        String ten = HEAD + "device home 8 0 0;".repeat(10);
        badAt(ten + "@device home 0 x 1", MANY);
        badAt(ten + "limit @0;device home 1 1 1;", RANGE);
        badAt(HEAD + "device home @0 0 0;" + "device home 8 0 0;".repeat(10), RANGE);
    }

    private static void firstKindCounts() {
        Check.sentence("If several kinds of error have the same offset, the first one in this list counts");
        badAt(HEAD + "wake 1 2 3 4 5 6 7 8 @1000;", RANGE);
        badAt(HEAD + "wake 1 2 3 4 5 6 7 8 @8;", RANGE);
        badAt(HEAD + "wake 1 2 3 4 5 6 7 8 @999;", MANY);
        badAt("gateway 7 24 @1000;", SYNTAX);
        badAt(HEAD + "limit 5 @1000;", SYNTAX);
        badAt(HEAD + "wake 1 2 3 4 5 6 7 8;@wake 9;", SYNTAX);
        badAt(HEAD + "device home 8 0 0;".repeat(10) + "@devices", SYNTAX);
        badAt(HEAD + "allow any any 0 0;".repeat(12) + "@deni any any 0 0;", SYNTAX);
    }
}
