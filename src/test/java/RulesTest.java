/** Promises 19 to 22 and 30 to 32: verdict, matching, isUseless, openPorts and the rules' changes. */
public final class RulesTest {
    private static final String HOUSE = "gateway 9 9;device home 1 1 1;device guest 1 1 1;"
            + "device guest 1 1 1;device iot 1 1 1;";

    private RulesTest() {
    }

    public static void main(String[] args) {
        verdictWithoutRules();
        isolationBeatsRules();
        firstRuleDecides();
        verdictWrongInputs();
        matching();
        selectorsMatchGroups();
        useless();
        uselessByJoinedRules();
        uselessEdges();
        openPorts();
        addRule();
        addRuleWrongInputs();
        removeRule();
        moveRule();
        Check.end();
    }

    private static void verdictWithoutRules() {
        HomeGateway x = Check.loaded(HOUSE);
        int[][] due = {{1, 1, 1, 1}, {0, 0, 0, 0}, {2, 0, 2, 0}, {2, 2, 0, 0}, {0, 0, 0, 0}};
        for (int from = -1; from < 4; from++) {
            for (int to = 0; to < 4; to++) {
                int want = due[from + 1][to];
                Check.same("19 verdict " + from + " " + to, x.verdict(from, to, 7), want);
                Check.same("22 openPorts " + from + " " + to, x.openPorts(from, to),
                        want == HomeGateway.ALLOWED ? 1000 : 0);
            }
        }
    }

    private static void isolationBeatsRules() {
        HomeGateway x = Check.loaded(HOUSE + "allow any any 0 999;");
        Check.same("19 guest to home", x.verdict(1, 0, 5), HomeGateway.ISOLATED);
        Check.same("19 guest to guest", x.verdict(1, 2, 5), HomeGateway.ISOLATED);
        Check.same("19 guest to itself", x.verdict(2, 2, 5), HomeGateway.ALLOWED);
        Check.same("19 guest to iot", x.verdict(2, 3, 5), HomeGateway.ALLOWED);
        Check.same("19 home to guest", x.verdict(0, 1, 5), HomeGateway.ALLOWED);
        Check.same("19 net to home", x.verdict(-1, 0, 5), HomeGateway.ALLOWED);
        HomeGateway y = Check.loaded(HOUSE + "deny any any 0 999;");
        Check.same("19 isolated, not denied", y.verdict(1, 0, 5), HomeGateway.ISOLATED);
        Check.same("19 guest to itself is denied", y.verdict(1, 1, 5), HomeGateway.DENIED);
    }

    private static void firstRuleDecides() {
        HomeGateway x = Check.loaded(HOUSE + "deny net iot 10 20;allow net any 15 30;deny any any 0 999;");
        Check.same("19 low edge", x.verdict(-1, 3, 10), HomeGateway.DENIED);
        Check.same("19 both", x.verdict(-1, 3, 20), HomeGateway.DENIED);
        Check.same("19 second", x.verdict(-1, 3, 21), HomeGateway.ALLOWED);
        Check.same("19 high edge", x.verdict(-1, 3, 30), HomeGateway.ALLOWED);
        Check.same("19 third", x.verdict(-1, 3, 31), HomeGateway.DENIED);
        Check.same("19 other receiver", x.verdict(-1, 0, 15), HomeGateway.ALLOWED);
        Check.same("19 below", x.verdict(-1, 0, 14), HomeGateway.DENIED);
        Check.same("19 other sender", x.verdict(0, 3, 15), HomeGateway.DENIED);
    }

    private static void verdictWrongInputs() {
        HomeGateway x = Check.loaded(HOUSE);
        Check.outside("19 from -2", () -> x.verdict(-2, 0, 1));
        Check.outside("19 from 4", () -> x.verdict(4, 0, 1));
        Check.outside("19 to -1", () -> x.verdict(0, -1, 1));
        Check.outside("19 to 4", () -> x.verdict(0, 4, 1));
        Check.outside("19 to 4, port -1", () -> x.verdict(0, 4, -1));
        Check.outside("19 from 4, port 1000", () -> x.verdict(4, 0, 1000));
        Check.argument("19 port -1", () -> x.verdict(0, 0, -1));
        Check.argument("19 port 1000", () -> x.verdict(-1, 3, 1000));
        Check.same("19 port 0", x.verdict(0, 0, 0), 0);
        Check.same("19 port 999", x.verdict(0, 0, 999), 0);
        Check.outside("22 from -2", () -> x.openPorts(-2, 0));
        Check.outside("22 from 4", () -> x.openPorts(4, 0));
        Check.outside("22 to -1", () -> x.openPorts(0, -1));
        Check.outside("22 to 4", () -> x.openPorts(-1, 4));
    }

    private static void matching() {
        HomeGateway x = Check.loaded(HOUSE + "deny home iot 5 9;allow guest home 0 999;deny any any 9 10;");
        Check.same("20 first", x.matching(0, 2, 5), 0);
        Check.same("20 first of two", x.matching(0, 2, 9), 0);
        Check.same("20 third", x.matching(0, 2, 10), 2);
        Check.same("20 none", x.matching(0, 2, 11), -1);
        Check.same("20 isolation does not count", x.matching(1, 0, 11), 1);
        Check.same("20 net", x.matching(3, 1, 9), 2);
        Check.argument("20 from -1", () -> x.matching(-1, 0, 5));
        Check.argument("20 from ANY", () -> x.matching(4, 0, 5));
        Check.argument("20 to -1", () -> x.matching(0, -1, 5));
        Check.argument("20 to NET", () -> x.matching(0, 3, 5));
        Check.argument("20 port -1", () -> x.matching(0, 0, -1));
        Check.argument("20 port 1000", () -> x.matching(0, 0, 1000));
        Check.same("20 without a gateway", new HomeGateway().matching(0, 0, 0), -1);
    }

    private static void selectorsMatchGroups() {
        String[] names = {"home", "guest", "iot", "net", "any"};
        for (int from = 0; from < 5; from++) {
            for (int to = 0; to < 5; to++) {
                HomeGateway x = Check.loaded(HOUSE + "deny " + names[from] + " " + names[to] + " 3 4;");
                for (int sender = 0; sender < 4; sender++) {
                    for (int receiver = 0; receiver < 3; receiver++) {
                        boolean match = (from == 4 || from == sender) && (to == 4 || to == receiver);
                        Check.same("20 " + names[from] + " " + names[to] + " for " + sender + " "
                                + receiver, x.matching(sender, receiver, 3), match ? 0 : -1);
                    }
                }
            }
        }
    }

    private static void useless() {
        HomeGateway x = Check.loaded(HOUSE + "allow home iot 10 20;deny home iot 10 20;deny home any 10 20;"
                + "deny any iot 12 13;allow home iot 20 21;allow iot net 1 2;");
        Check.no("21 the first one", x.isUseless(0));
        Check.yes("21 the same", x.isUseless(1));
        Check.no("21 more receivers", x.isUseless(2));
        Check.no("21 more senders", x.isUseless(3));
        Check.no("21 one port more", x.isUseless(4));
        Check.yes("21 to NET nothing matches", x.isUseless(5));
        Check.outside("21 rule -1", () -> x.isUseless(-1) ? 1 : 0);
        Check.outside("21 rule 6", () -> x.isUseless(6) ? 1 : 0);
        HomeGateway y = Check.loaded(HOUSE + "deny any net 0 999;");
        Check.yes("21 even the first one", y.isUseless(0));
    }

    private static void uselessByJoinedRules() {
        HomeGateway x = Check.loaded(HOUSE + "allow any any 0 4;deny any any 8 9;allow any any 5 7;"
                + "deny home home 0 9;deny home home 0 10;deny home home 3 8;");
        Check.yes("21 three ranges together", x.isUseless(3));
        Check.no("21 three ranges but for one port", x.isUseless(4));
        Check.yes("21 within", x.isUseless(5));
        HomeGateway y = Check.loaded(HOUSE + "allow home any 1 9;deny guest any 1 9;allow iot any 1 9;"
                + "deny any any 1 9;deny net any 1 9;deny any any 1 9;allow any home 2 3;");
        Check.no("21 net is left", y.isUseless(3));
        Check.yes("21 all senders together", y.isUseless(5));
        Check.yes("21 part of all", y.isUseless(6));
        Check.yes("21 an earlier rule alone", y.isUseless(4));
        y.moveRule(3, 4);
        Check.no("21 net before any", y.isUseless(3));
        Check.yes("21 now any is left nothing", y.isUseless(4));
    }

    private static void uselessEdges() {
        HomeGateway x = Check.loaded(HOUSE + "deny any any 1 998;deny any any 0 998;deny any any 1 999;"
                + "deny any any 0 999;deny any any 999 999;deny any any 0 0;");
        Check.no("21 port 0 is left", x.isUseless(1));
        Check.no("21 port 999 is left", x.isUseless(2));
        Check.yes("21 joined", x.isUseless(3));
        Check.yes("21 999", x.isUseless(4));
        Check.yes("21 0", x.isUseless(5));
        HomeGateway y = Check.loaded(HOUSE + "deny any any 0 4;deny any any 6 9;deny any any 0 9;"
                + "deny any any 5 5;");
        Check.no("21 the gap is left", y.isUseless(2));
        Check.yes("21 the gap is filled", y.isUseless(3));
    }

    private static void openPorts() {
        HomeGateway x = Check.loaded(HOUSE + "allow net any 80 90;deny iot home 0 999;allow any any 0 50;"
                + "deny any any 85 95;allow any iot 999 999;");
        Check.same("22 net to home", x.openPorts(-1, 0), 62);
        Check.same("22 net to iot", x.openPorts(-1, 3), 63);
        Check.same("22 home to iot", x.openPorts(0, 3), 989);
        Check.same("22 iot to home", x.openPorts(3, 0), 0);
        Check.same("22 guest to home", x.openPorts(1, 0), 0);
        Check.same("22 guest to guest", x.openPorts(1, 2), 0);
        Check.same("22 guest to itself", x.openPorts(1, 1), 989);
        StringBuilder odd = new StringBuilder(HOUSE);
        for (int i = 0; i < 12; i++) {
            odd.append("allow net any ").append(10 * i + 1).append(' ').append(10 * i + 5).append(';');
        }
        Check.same("22 twelve ranges", Check.loaded(odd.toString()).openPorts(-1, 0), 60);
        String denied = odd.toString().replace("allow net", "deny any");
        Check.same("22 all but twelve ranges", Check.loaded(denied).openPorts(0, 0), 940);
    }

    private static void addRule() {
        HomeGateway x = Check.loaded("gateway 1 1;device home 1 1 1;");
        for (int i = 0; i < 12; i++) {
            Check.same("30 addRule " + i, x.addRule(i % 2 == 0, i % 5, i % 4, i, 999 - i), i);
            Check.same("6 ruleCount", x.ruleCount(), i + 1);
        }
        Check.state("30 a 13th rule", () -> x.addRule(true, 4, 4, 0, 999));
        Check.argument("30 a wrong 13th rule", () -> x.addRule(true, 5, 4, 0, 999));
        Check.same("6 ruleCount", x.ruleCount(), 12);
        HomeGateway y = Check.loaded("gateway 1 1;device home 1 1 1;");
        Check.same("30 at the end", y.addRule(false, HomeGateway.ANY, HomeGateway.HOME, 0, 998), 0);
        Check.same("30 at the end", y.addRule(true, HomeGateway.NET, HomeGateway.ANY, 998, 999), 1);
        Check.same("30 the first one decides", y.verdict(-1, 0, 998), HomeGateway.DENIED);
        Check.same("30 the second one allows", y.verdict(-1, 0, 999), HomeGateway.ALLOWED);
        Check.same("30 from home", y.verdict(0, 0, 999), HomeGateway.ALLOWED);
    }

    private static void addRuleWrongInputs() {
        HomeGateway x = Check.loaded("gateway 1 1;");
        Check.argument("30 from -1", () -> x.addRule(true, -1, 0, 0, 0));
        Check.argument("30 from 5", () -> x.addRule(true, 5, 0, 0, 0));
        Check.argument("30 to -1", () -> x.addRule(true, 0, -1, 0, 0));
        Check.argument("30 to 5", () -> x.addRule(true, 0, 5, 0, 0));
        Check.argument("30 low -1", () -> x.addRule(true, 0, 0, -1, 0));
        Check.argument("30 high 1000", () -> x.addRule(true, 0, 0, 0, 1000));
        Check.argument("30 both 1000", () -> x.addRule(true, 0, 0, 1000, 1000));
        Check.argument("30 both -1", () -> x.addRule(true, 0, 0, -1, -1));
        Check.argument("30 high below low", () -> x.addRule(true, 0, 0, 5, 4));
        Check.same("30 nothing changed", x.ruleCount(), 0);
        Check.same("33 one change", x.undo(), 0);
        Check.state("30 no gateway", () -> x.addRule(true, 0, 0, 0, 0));
        Check.argument("30 no gateway and wrong", () -> x.addRule(true, 0, 0, 1, 0));
        Check.same("30 one port", Check.loaded("gateway 1 1;").addRule(true, 0, 4, 999, 999), 0);
    }

    private static String lows(HomeGateway x) {
        StringBuilder order = new StringBuilder();
        for (int port = 0; port < 5; port++) {
            order.append(x.matching(0, 0, port)).append(' ');
        }
        return order.toString();
    }

    private static HomeGateway fiveRules() {
        return Check.loaded("gateway 1 1;allow any any 0 0;deny any any 1 1;allow any any 2 2;"
                + "deny any any 3 3;allow any any 4 4;");
    }

    private static void removeRule() {
        HomeGateway x = fiveRules();
        Check.outside("31 rule -1", () -> x.removeRule(-1));
        Check.outside("31 rule 5", () -> x.removeRule(5));
        Check.same("31 the middle", x.removeRule(2), 4);
        Check.same("31 order", lows(x), "0 1 -1 2 3 ");
        Check.same("31 the first", x.removeRule(0), 3);
        Check.same("31 order", lows(x), "-1 0 -1 1 2 ");
        Check.same("31 the last", x.removeRule(2), 2);
        Check.same("31 order", lows(x), "-1 0 -1 1 -1 ");
        Check.outside("31 rule 2", () -> x.removeRule(2));
        Check.same("31", x.removeRule(0), 1);
        Check.same("31", x.removeRule(0), 0);
        Check.outside("31 none is left", () -> x.removeRule(0));
        Check.same("6 ruleCount", x.ruleCount(), 0);
        Check.same("30 after it", x.addRule(true, 4, 4, 3, 3), 0);
        Check.same("31 order", lows(x), "-1 -1 -1 0 -1 ");
    }

    private static void moveRule() {
        HomeGateway x = fiveRules();
        Check.outside("32 rule -1", () -> x.moveRule(-1, 0));
        Check.outside("32 rule 5", () -> x.moveRule(5, 0));
        Check.outside("32 place -1", () -> x.moveRule(0, -1));
        Check.outside("32 place 5", () -> x.moveRule(0, 5));
        Check.same("32 nothing changed", lows(x), "0 1 2 3 4 ");
        Check.same("32 down", x.moveRule(1, 3), 5);
        Check.same("32 order", lows(x), "0 3 1 2 4 ");
        Check.same("32 up", x.moveRule(4, 0), 5);
        Check.same("32 order", lows(x), "1 4 2 3 0 ");
        Check.same("32 to its place", x.moveRule(2, 2), 5);
        Check.same("32 order", lows(x), "1 4 2 3 0 ");
        Check.same("32 is a change", x.undo(), 3);
        Check.same("32 undone", x.undo(), 2);
        Check.same("32 order", lows(x), "0 3 1 2 4 ");
    }
}
