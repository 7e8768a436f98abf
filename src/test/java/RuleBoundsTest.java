/** The bounds of the rules and of promises 19 to 22 and 30 to 32; a refused call leaves all as it was. */
public final class RuleBoundsTest {
    private static final int ALLOWED = HomeGateway.ALLOWED;
    private static final int DENIED = HomeGateway.DENIED;
    private static final int ISOLATED = HomeGateway.ISOLATED;
    /** Device 0 is of the home, 1 and 2 are guests, 3 is a thing. */
    private static final String HOUSE = "gateway 9 9;device home 1 1 1;device guest 1 1 1;device guest 1 1 1;"
            + "device iot 1 1 1;";
    private static final Story.Scene[] SCENES = {Scenes::young, Scenes::busy, Scenes::fullOfRules};

    private RuleBoundsTest() {
    }

    public static void main(String[] args) {
        rangeOfARule();
        selectorsOfARule();
        isolation();
        firstMatchDecides();
        noRuleMatches();
        devicesOfVerdict();
        portOfVerdict();
        groupsOfMatching();
        firstOfMatching();
        ruleOfUseless();
        uselessOnlyByEarlierRules();
        uselessUpToThePort();
        uselessUpToTheGroup();
        uselessWithoutAnything();
        devicesOfOpenPorts();
        openPorts();
        selectorsOfAddRule();
        portsOfAddRule();
        twelfthRule();
        noGateway();
        ruleOfRemoveRule();
        rulesMoveUp();
        ruleAndPlaceOfMoveRule();
        othersKeepTheirOrder();
        Check.end();
    }

    private static void rangeOfARule() {
        Check.sentence("A rule matches if ... the port is in its range (from low to high)");
        HomeGateway x = Check.loaded(HOUSE + "deny any any 5 8;deny any any 0 0;deny any any 999 999;");
        int[][] due = {{0, 1}, {1, -1}, {4, -1}, {5, 0}, {8, 0}, {9, -1}, {998, -1}, {999, 2}};
        for (int[] row : due) {
            Check.same("matching at " + row[0], x.matching(0, 0, row[0]), row[1]);
            Check.same("verdict at " + row[0], x.verdict(0, 0, row[0]), row[1] < 0 ? ALLOWED : DENIED);
        }
        HomeGateway one = Check.loaded(HOUSE + "deny any any 7 7;");
        Check.same("below one port", one.matching(0, 0, 6), -1);
        Check.same("one port", one.matching(0, 0, 7), 0);
        Check.same("above one port", one.matching(0, 0, 8), -1);
    }

    private static void selectorsOfARule() {
        Check.sentence("A rule matches if its selectors are ANY or the groups of the sender and the receiver");
        for (int from = 0; from <= 4; from++) {
            for (int to = 0; to <= 4; to++) {
                HomeGateway x = Check.loaded(HOUSE);
                x.addRule(true, from, to, 5, 5);
                for (int sender = 0; sender <= 3; sender++) {
                    for (int receiver = 0; receiver <= 2; receiver++) {
                        boolean due = (from == 4 || from == sender) && (to == 4 || to == receiver);
                        Check.same("rule " + from + " " + to + " for " + sender + " " + receiver,
                                x.matching(sender, receiver, 5), due ? 0 : -1);
                    }
                }
            }
        }
    }

    private static void isolation() {
        Check.sentence("ISOLATED if the sender is a GUEST and the receiver is in the group HOME, or if both are "
                + "GUESTs and different devices, whatever the rules say");
        for (String rule : new String[] {"", "allow any any 0 999;", "deny any any 0 999;", "allow guest home 5 5;",
            "deny guest guest 5 5;"}) {
            HomeGateway x = Check.loaded(HOUSE + rule);
            for (int guest = 1; guest <= 2; guest++) {
                Check.same("guest to home " + rule, x.verdict(guest, 0, 5), ISOLATED);
                Check.same("guest to the other " + rule, x.verdict(guest, 3 - guest, 5), ISOLATED);
                Check.same("arrive " + rule, x.arrive(guest, 0, 5, 1), 1);
                Check.no("guest to itself " + rule, x.verdict(guest, guest, 5) == ISOLATED);
                Check.no("guest to a thing " + rule, x.verdict(guest, 3, 5) == ISOLATED);
                Check.no("home to guest " + rule, x.verdict(0, guest, 5) == ISOLATED);
                Check.no("thing to guest " + rule, x.verdict(3, guest, 5) == ISOLATED);
                Check.no("internet to guest " + rule, x.verdict(-1, guest, 5) == ISOLATED);
            }
            Check.no("thing to home " + rule, x.verdict(3, 0, 5) == ISOLATED);
            Check.no("internet to home " + rule, x.verdict(-1, 0, 5) == ISOLATED);
        }
    }

    private static void firstMatchDecides() {
        Check.sentence("Otherwise, the first rule that matches decides: ALLOWED or DENIED");
        HomeGateway x = Check.loaded(HOUSE + "allow net home 5 6;deny any any 6 7;allow any any 5 8;");
        Check.same("only the first and third", x.verdict(-1, 0, 5), ALLOWED);
        Check.same("all three", x.verdict(-1, 0, 6), ALLOWED);
        Check.same("the second and third", x.verdict(-1, 0, 7), DENIED);
        Check.same("the third", x.verdict(-1, 0, 8), ALLOWED);
        Check.same("another receiver", x.verdict(-1, 3, 6), DENIED);
        Check.same("another sender", x.verdict(0, 0, 6), DENIED);
        Check.same("a guest to itself", x.verdict(1, 1, 6), DENIED);
    }

    private static void noRuleMatches() {
        Check.sentence("If no rule matches, it is DENIED if the sender is NET, else ALLOWED");
        for (String rule : new String[] {"", "allow any net 0 999;", "allow any any 6 999;deny any any 0 4;"}) {
            HomeGateway x = Check.loaded(HOUSE + rule);
            for (int to = 0; to < 4; to++) {
                Check.same("from the internet " + rule, x.verdict(-1, to, 5), DENIED);
                Check.same("from the home " + rule, x.verdict(0, to, 5), ALLOWED);
                Check.same("from a thing " + rule, x.verdict(3, to, 5), ALLOWED);
            }
            Check.same("from a guest " + rule, x.verdict(2, 2, 5), ALLOWED);
        }
    }

    private static void devicesOfVerdict() {
        Check.sentence("verdict: Throws IndexOutOfBoundsException if one of the devices does not exist");
        int n = Scenes.DEVICES;
        for (Story.Scene scene : SCENES) {
            for (int from : new int[] {Integer.MIN_VALUE, -2, n, Integer.MAX_VALUE}) {
                Story.outside("verdict from " + from, scene, x -> x.verdict(from, 0, 5));
            }
            for (int to : new int[] {Integer.MIN_VALUE, -1, n, Integer.MAX_VALUE}) {
                Story.outside("verdict to " + to, scene, x -> x.verdict(0, to, 5));
            }
            Story.outside("verdict of none", scene, x -> x.verdict(-2, -1, 5));
        }
        HomeGateway x = Scenes.young();
        Check.same("from -1", x.verdict(-1, 0, 85), ALLOWED);
        Check.same("from the last", x.verdict(n - 1, 0, 5), ISOLATED);
        Check.same("to the last", x.verdict(0, n - 1, 5), ALLOWED);
        Story.outside("verdict without devices", Scenes::bare, y -> y.verdict(-1, 0, 5));
        Story.outside("verdict without a gateway", Scenes::empty, y -> y.verdict(-1, 0, 5));
    }

    private static void portOfVerdict() {
        Check.sentence("verdict: Throws IllegalArgumentException if port is out of range");
        for (Story.Scene scene : SCENES) {
            for (int port : new int[] {Integer.MIN_VALUE, -1, 1000, Integer.MAX_VALUE}) {
                Story.argument("verdict at " + port, scene, x -> x.verdict(0, 0, port));
                Story.argument("verdict at " + port, scene, x -> x.verdict(-1, 3, port));
                Story.outside("verdict to none at " + port, scene, x -> x.verdict(0, 4, port));
                Story.outside("verdict from none at " + port, scene, x -> x.verdict(4, 0, port));
            }
        }
        Check.same("port 0", Scenes.young().verdict(0, 0, 0), ALLOWED);
        Check.same("port 999", Scenes.young().verdict(2, 0, 999), DENIED);
    }

    private static void groupsOfMatching() {
        Check.sentence("matching: Throws IllegalArgumentException if from, to or port is out of range");
        Story.Scene[] scenes = {Scenes::empty, Scenes::busy};
        for (Story.Scene scene : scenes) {
            for (int from : new int[] {Integer.MIN_VALUE, -1, 4, Integer.MAX_VALUE}) {
                Story.argument("matching from " + from, scene, x -> x.matching(from, 0, 5));
            }
            for (int to : new int[] {Integer.MIN_VALUE, -1, 3, 4, Integer.MAX_VALUE}) {
                Story.argument("matching to " + to, scene, x -> x.matching(0, to, 5));
            }
            for (int port : new int[] {Integer.MIN_VALUE, -1, 1000, Integer.MAX_VALUE}) {
                Story.argument("matching at " + port, scene, x -> x.matching(0, 0, port));
            }
        }
        HomeGateway x = Check.loaded("gateway 1 1;allow home home 0 0;allow net iot 999 999;");
        Check.same("0, 0, 0", x.matching(0, 0, 0), 0);
        Check.same("3, 2, 999", x.matching(3, 2, 999), 1);
    }

    private static void firstOfMatching() {
        Check.sentence("Returns the first rule that matches; -1 if there is none");
        HomeGateway x = Scenes.bare();
        Check.same("no rules", x.matching(0, 0, 5), -1);
        for (int i = 0; i < 12; i++) {
            x.addRule(i % 2 == 0, 4, 4, 0, i);
        }
        for (int port = 0; port < 12; port++) {
            Check.same("port " + port, x.matching(1, 1, port), port);
        }
        Check.same("port 12", x.matching(1, 1, 12), -1);
        Check.same("a guest to the home", x.matching(1, 0, 5), 5);
    }

    private static void ruleOfUseless() {
        Check.sentence("isUseless: Throws IndexOutOfBoundsException if there is no such rule");
        int[] wrong = {Integer.MIN_VALUE, -1, Scenes.RULES, 12, Integer.MAX_VALUE};
        for (int rule : wrong) {
            Story.outside("isUseless(" + rule + ")", Scenes::busy, x -> x.isUseless(rule) ? 1 : 0);
            Story.outside("isUseless(" + rule + ")", Scenes::bare, x -> x.isUseless(rule) ? 1 : 0);
        }
        Story.outside("isUseless(0)", Scenes::bare, x -> x.isUseless(0) ? 1 : 0);
        Story.outside("isUseless(0)", Scenes::empty, x -> x.isUseless(0) ? 1 : 0);
        Story.outside("isUseless(12)", Scenes::fullOfRules, x -> x.isUseless(12) ? 1 : 0);
        Check.no("the first", Scenes.busy().isUseless(0));
        Check.no("the last", Scenes.busy().isUseless(Scenes.RULES - 1));
        Check.no("the 12th", Scenes.fullOfRules().isUseless(11));
    }

    /** A 'u' is due for each rule that is useless, a '-' for each other one. */
    private static void uselessRules(String rules, String due) {
        HomeGateway x = Check.loaded("gateway 1 1;" + rules);
        StringBuilder got = new StringBuilder();
        for (int i = 0; i < x.ruleCount(); i++) {
            got.append(x.isUseless(i) ? 'u' : '-');
        }
        Check.same("useless of " + rules, got.toString(), due);
    }

    private static void uselessOnlyByEarlierRules() {
        Check.sentence("a rule is useless: for all ... that it matches, an earlier rule matches");
        uselessRules("allow any any 1 9;", "-");
        uselessRules("allow any any 1 9;allow any any 1 9;", "-u");
        uselessRules("allow any any 1 9;deny any any 1 9;", "-u");
        uselessRules("allow any any 2 8;allow any any 1 9;", "--");
        uselessRules("allow any any 1 9;allow any any 2 8;", "-u");
        uselessRules("deny any any 0 999;".repeat(12), "-uuuuuuuuuuu");
    }

    private static void uselessUpToThePort() {
        Check.sentence("for all ... ports that it matches, an earlier rule matches");
        uselessRules("deny any any 1 9;deny any any 1 9;", "-u");
        uselessRules("deny any any 1 9;deny any any 0 9;", "--");
        uselessRules("deny any any 1 9;deny any any 1 10;", "--");
        uselessRules("deny any any 1 4;deny any any 5 9;deny any any 1 9;", "--u");
        uselessRules("deny any any 5 9;deny any any 1 4;deny any any 1 9;", "--u");
        uselessRules("deny any any 1 4;deny any any 6 9;deny any any 1 9;", "---");
        uselessRules("deny any any 1 4;deny any any 6 9;deny any any 5 5;deny any any 1 9;", "---u");
        uselessRules("deny any any 1 6;deny any any 4 9;deny any any 1 9;deny any any 2 8;", "--uu");
        uselessRules("deny any any 0 998;deny any any 0 999;deny any any 999 999;", "--u");
        uselessRules("deny any any 1 999;deny any any 0 999;deny any any 0 0;", "--u");
        uselessRules("deny any any 0 0;deny any any 0 0;deny any any 999 999;deny any any 999 999;", "-u-u");
        uselessRules("deny any any 0 4;deny any any 10 14;deny any any 5 9;deny any any 20 20;deny any any 15 19;"
                + "deny any any 0 20;deny any any 0 21;", "-----u-");
    }

    private static void uselessUpToTheGroup() {
        Check.sentence("for all groups of senders (0 to 3), groups of receivers (0 to 2)");
        uselessRules("deny home any 1 9;deny any any 1 9;", "--");
        uselessRules("deny any home 1 9;deny any any 1 9;", "--");
        uselessRules("deny any any 1 9;deny home any 1 9;deny any iot 1 9;deny net guest 1 9;", "-uuu");
        String three = "deny home any 1 9;deny guest any 1 9;deny iot any 1 9;";
        uselessRules(three + "deny any any 1 9;", "----");
        uselessRules(three + "deny net any 1 9;deny any any 1 9;", "----u");
        uselessRules("deny any home 1 9;deny any guest 1 9;deny any any 1 9;", "---");
        uselessRules("deny any home 1 9;deny any guest 1 9;deny any iot 1 9;deny any any 1 9;", "---u");
        uselessRules("deny home guest 1 9;deny guest home 1 9;deny home home 1 9;", "---");
        uselessRules("deny home any 1 4;deny any iot 5 9;deny home iot 1 9;deny home iot 1 10;", "--u-");
        uselessRules("deny net home 0 499;deny net guest 0 999;deny net iot 0 999;deny any home 500 999;"
                + "deny net any 0 999;deny any any 500 999;", "----u-");
    }

    private static void uselessWithoutAnything() {
        Check.sentence("for all groups of receivers (0 to 2): the internet is none");
        uselessRules("deny any net 0 999;", "u");
        uselessRules("allow home net 5 5;allow net net 5 5;deny home home 5 5;", "uu-");
        uselessRules("deny home net 0 999;deny home any 0 999;", "u-");
    }

    private static void devicesOfOpenPorts() {
        Check.sentence("openPorts: Throws IndexOutOfBoundsException if one of the devices does not exist");
        int n = Scenes.DEVICES;
        for (Story.Scene scene : SCENES) {
            for (int from : new int[] {Integer.MIN_VALUE, -2, n, Integer.MAX_VALUE}) {
                Story.outside("openPorts from " + from, scene, x -> x.openPorts(from, 0));
            }
            for (int to : new int[] {Integer.MIN_VALUE, -1, n, Integer.MAX_VALUE}) {
                Story.outside("openPorts to " + to, scene, x -> x.openPorts(0, to));
            }
        }
        Check.same("from -1", Scenes.young().openPorts(-1, 0), 11);
        Check.same("from the last", Scenes.young().openPorts(n - 1, 0), 0);
        Check.same("to the last", Scenes.young().openPorts(0, n - 1), 1000);
        Story.outside("openPorts without devices", Scenes::bare, x -> x.openPorts(-1, 0));
        Story.outside("openPorts without a gateway", Scenes::empty, x -> x.openPorts(-1, 0));
    }

    private static void open(String rules, int fromNet, int fromHome) {
        HomeGateway x = Check.loaded(HOUSE + rules);
        Check.same("openPorts of " + rules, x.openPorts(-1, 3), fromNet);
        Check.same("openPorts of " + rules, x.openPorts(0, 3), fromHome);
        Check.same("verdicts of " + rules, allowed(rules), fromNet);
    }

    /** An object answers no more than 512 calls, so there is one for each 250 ports. */
    private static int allowed(String rules) {
        int allowed = 0;
        for (int first = 0; first < 1000; first += 250) {
            HomeGateway x = Check.loaded(HOUSE + rules);
            for (int port = first; port < first + 250; port++) {
                allowed += x.verdict(-1, 3, port) == ALLOWED ? 1 : 0;
            }
        }
        return allowed;
    }

    private static void openPorts() {
        Check.sentence("Returns the number of ports for which the verdict is ALLOWED");
        open("", 0, 1000);
        open("allow any any 0 999;", 1000, 1000);
        open("deny any any 0 999;", 0, 0);
        open("allow net any 0 0;", 1, 1000);
        open("allow net any 999 999;deny home iot 999 999;", 1, 999);
        open("allow any any 0 998;deny any any 0 999;", 999, 999);
        open("deny any any 10 19;allow any any 15 24;", 5, 990);
        open("allow any any 15 24;deny any any 10 19;", 10, 995);
        open("allow net any 10 19;allow net iot 20 29;allow net any 30 30;", 21, 1000);
        open("allow net home 0 999;allow net guest 0 999;allow net net 0 999;", 0, 1000);
        StringBuilder many = new StringBuilder();
        for (int i = 0; i < 12; i++) {
            many.append("allow net any ").append(80 * i + 5).append(' ').append(81 * i + 5).append(';');
        }
        open(many.toString(), 78, 1000);
        open(many.toString().replace("allow net", "deny any"), 0, 922);
    }

    private static void selectorsOfAddRule() {
        Check.sentence("addRule: Throws IllegalArgumentException if a selector ... is out of range");
        for (int wrong : new int[] {Integer.MIN_VALUE, -1, 5, Integer.MAX_VALUE}) {
            for (Story.Scene scene : new Story.Scene[] {Scenes::young, Scenes::busy, Scenes::fullOfRules,
                Scenes::empty}) {
                Story.argument("addRule from " + wrong, scene, x -> x.addRule(true, wrong, 0, 1, 2));
                Story.argument("addRule to " + wrong, scene, x -> x.addRule(false, 0, wrong, 1, 2));
            }
        }
        Check.same("0 and 0", Scenes.busy().addRule(true, 0, 0, 1, 2), Scenes.RULES);
        Check.same("4 and 4", Scenes.busy().addRule(true, 4, 4, 1, 2), Scenes.RULES);
        Check.same("3 and 3", Scenes.busy().addRule(false, 3, 3, 1, 2), Scenes.RULES);
    }

    private static void portsOfAddRule() {
        Check.sentence("addRule: Throws IllegalArgumentException if a ... port is out of range, or if high is less "
                + "than low");
        int[][] wrong = {{-1, 5}, {-1, -1}, {0, 1000}, {1000, 1000}, {5, 4}, {999, 998}, {1, 0}, {0, -1}, {999, 0},
            {1000, 999}, {Integer.MIN_VALUE, 5}, {5, Integer.MAX_VALUE}, {Integer.MAX_VALUE, Integer.MIN_VALUE}};
        for (int[] ports : wrong) {
            for (Story.Scene scene : new Story.Scene[] {Scenes::young, Scenes::busy, Scenes::fullOfRules,
                Scenes::undone}) {
                Story.argument("addRule " + ports[0] + " " + ports[1], scene,
                        x -> x.addRule(true, 0, 0, ports[0], ports[1]));
            }
        }
        for (int[] ports : new int[][] {{0, 0}, {0, 999}, {999, 999}, {4, 5}, {5, 5}}) {
            HomeGateway x = Scenes.busy();
            Check.same("addRule", x.addRule(true, 3, 2, ports[0], ports[1]), Scenes.RULES);
            Check.same("low", x.matching(3, 2, ports[0]), Scenes.RULES);
        }
    }

    private static void twelfthRule() {
        Check.sentence("addRule: Throws IllegalStateException ... if there are 12 rules");
        HomeGateway x = Scenes.fullOfRules();
        Check.same("removeRule", x.removeRule(11), 11);
        Check.same("the 12th", x.addRule(false, 4, 4, 0, 999), 11);
        Check.same("ruleCount", x.ruleCount(), 12);
        Story.state("the 13th", Scenes::fullOfRules, y -> y.addRule(true, 4, 4, 0, 999));
        Story.state("the 13th", Scenes::fullOfRules, y -> y.addRule(false, 0, 0, 0, 0));
        String twelve = "gateway 1 1;" + "deny iot iot 1 1;".repeat(12);
        Story.state("the 13th after load", () -> Check.loaded(twelve), y -> y.addRule(true, 4, 4, 0, 999));
    }

    private static void noGateway() {
        Check.sentence("addRule: Throws IllegalStateException if there is no gateway");
        Story.state("a new object", HomeGateway::new, x -> x.addRule(true, 4, 4, 0, 999));
        Story.state("before load", Scenes::empty, x -> x.addRule(true, 4, 4, 0, 999));
        Story.state("after undo of load", Scenes::undone, x -> x.addRule(true, 4, 4, 0, 999));
        Check.same("a gateway without devices", Scenes.bare().addRule(true, 4, 4, 0, 999), 0);
    }

    private static void ruleOfRemoveRule() {
        Check.sentence("removeRule: Throws IndexOutOfBoundsException if there is no such rule");
        for (int rule : new int[] {Integer.MIN_VALUE, -1, Scenes.RULES, Integer.MAX_VALUE}) {
            Story.outside("removeRule(" + rule + ")", Scenes::young, x -> x.removeRule(rule));
            Story.outside("removeRule(" + rule + ")", Scenes::busy, x -> x.removeRule(rule));
        }
        Story.outside("removeRule(12)", Scenes::fullOfRules, x -> x.removeRule(12));
        Story.outside("no rules", Scenes::bare, x -> x.removeRule(0));
        Story.outside("no gateway", Scenes::empty, x -> x.removeRule(0));
        Check.same("the first", Scenes.busy().removeRule(0), Scenes.RULES - 1);
        Check.same("the last", Scenes.busy().removeRule(Scenes.RULES - 1), Scenes.RULES - 1);
        Check.same("the 12th", Scenes.fullOfRules().removeRule(11), 11);
    }

    /** Where the rules for the ports 0 to 4 stand. */
    private static String places(HomeGateway x) {
        StringBuilder places = new StringBuilder();
        for (int port = 0; port < 5; port++) {
            int place = x.matching(0, 0, port);
            places.append(place < 0 ? "-" : String.valueOf(place));
        }
        return places.toString();
    }

    private static HomeGateway fiveRules() {
        return Check.loaded("gateway 1 1;allow any any 0 0;deny any any 1 1;allow any any 2 2;deny any any 3 3;"
                + "allow any any 4 4;");
    }

    private static void rulesMoveUp() {
        Check.sentence("Removes a rule; the rules behind it move up");
        String[] due = {"-0123", "0-123", "01-23", "012-3", "0123-"};
        for (int rule = 0; rule < 5; rule++) {
            HomeGateway x = fiveRules();
            Check.same("removeRule(" + rule + ")", x.removeRule(rule), 4);
            Check.same("ruleCount", x.ruleCount(), 4);
            Check.same("places without " + rule, places(x), due[rule]);
        }
        HomeGateway x = fiveRules();
        for (int left = 4; left >= 0; left--) {
            Check.same("removeRule(0)", x.removeRule(0), left);
        }
        Check.outside("removeRule(0)", () -> x.removeRule(0));
        Check.same("places", places(x), "-----");
    }

    private static void ruleAndPlaceOfMoveRule() {
        Check.sentence("moveRule: Throws IndexOutOfBoundsException if there is no such rule or no such place");
        for (int wrong : new int[] {Integer.MIN_VALUE, -1, Scenes.RULES, Integer.MAX_VALUE}) {
            Story.outside("moveRule(" + wrong + ", 0)", Scenes::young, x -> x.moveRule(wrong, 0));
            Story.outside("moveRule(" + wrong + ", 0)", Scenes::busy, x -> x.moveRule(wrong, 0));
            Story.outside("moveRule(0, " + wrong + ")", Scenes::young, x -> x.moveRule(0, wrong));
            Story.outside("moveRule(0, " + wrong + ")", Scenes::busy, x -> x.moveRule(0, wrong));
        }
        Story.outside("moveRule(0, 12)", Scenes::fullOfRules, x -> x.moveRule(0, 12));
        Story.outside("moveRule(12, 0)", Scenes::fullOfRules, x -> x.moveRule(12, 0));
        Story.outside("no rules", Scenes::bare, x -> x.moveRule(0, 0));
        Story.outside("no gateway", Scenes::empty, x -> x.moveRule(0, 0));
        Check.same("down", Scenes.busy().moveRule(0, Scenes.RULES - 1), Scenes.RULES);
        Check.same("up", Scenes.busy().moveRule(Scenes.RULES - 1, 0), Scenes.RULES);
        Check.same("all the way", Scenes.fullOfRules().moveRule(0, 11), 12);
        Check.same("all the way back", Scenes.fullOfRules().moveRule(11, 0), 12);
    }

    private static void othersKeepTheirOrder() {
        Check.sentence("Moves a rule to another place; the other rules keep their order");
        for (int rule = 0; rule < 5; rule++) {
            for (int place = 0; place < 5; place++) {
                HomeGateway x = fiveRules();
                StringBuilder due = new StringBuilder("01234");
                due.deleteCharAt(rule).insert(place, rule);
                String call = "moveRule(" + rule + ", " + place + ")";
                Check.same(call, x.moveRule(rule, place), 5);
                Check.same("ruleCount after " + call, x.ruleCount(), 5);
                Check.same("order after " + call, order(places(x)), due.toString());
            }
        }
    }

    /** The ports in the order of their rules. */
    private static String order(String places) {
        StringBuilder order = new StringBuilder();
        for (char place = '0'; place < '5'; place++) {
            order.append(places.indexOf(place));
        }
        return order.toString();
    }
}
