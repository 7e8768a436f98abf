/** Promises 1 to 4: a new object, append, load with every error, errorOffset. */
public final class SetupTest {
    private static final String HEAD = "gateway 7 24;";

    private SetupTest() {
    }

    public static void main(String[] args) {
        newObject();
        appendFillsTheBuffer();
        appendPutsTheHighByteFirst();
        loadWrongLength();
        loadEmptiesTheBuffer();
        goodTexts();
        headErrors();
        tokens();
        deviceErrors();
        ruleErrors();
        wakeErrors();
        quietErrors();
        limitErrors();
        errorPriorities();
        loadReplacesAll();
        errorLeavesTheRest();
        Check.end();
    }

    private static void newObject() {
        HomeGateway x = new HomeGateway();
        Check.same("1 deviceCount", x.deviceCount(), 0);
        Check.same("1 ruleCount", x.ruleCount(), 0);
        Check.same("1 clock", x.clock(), 0);
        Check.same("1 rejected", x.rejected(), 0);
        Check.same("1 proxied", x.proxied(), 0);
        Check.same("1 dropped", x.dropped(), 0);
        Check.same("4 errorOffset of a new object", x.errorOffset(), -1);
        Check.same("1 checksum", x.checksum(), 0);
        Check.same("1 undo", x.undo(), -1);
        Check.argument("1 empty buffer", () -> x.load(1));
    }

    private static void appendFillsTheBuffer() {
        HomeGateway x = new HomeGateway();
        for (int i = 1; i <= 45; i++) {
            Check.same("2 append " + i, x.append(0, 0, 0, 0, 0), 20 * i);
        }
        Check.same("2 append 46", x.append(0, 0, 0, 0, 0), -1);
        Check.same("2 append 47", x.append(1, 1, 1, 1, 1), -1);
        Check.argument("2 length unchanged", () -> x.load(901));
        Check.same("2 load of zeros", x.load(900), HomeGateway.SYNTAX_ERROR);
        Check.same("2 offset of the first zero", x.errorOffset(), 0);
        Check.same("2 append after load", x.append(0, 0, 0, 0, 0), 20);
        fullBufferIsRead();
    }

    private static void fullBufferIsRead() {
        HomeGateway x = new HomeGateway();
        StringBuilder text = new StringBuilder(" ".repeat(870));
        text.append("gateway 1 1;device iot 9 9 99;");
        Check.same("2 text of 900 bytes", text.length(), 900);
        Check.append(x, text.toString());
        Check.same("2 no room when full", x.append(1, 2, 3, 4, 5), -1);
        Check.same("2 load of 900 bytes", x.load(900), 1);
        Check.same("2 weight at the end", x.weight(0), 9);
    }

    private static void appendPutsTheHighByteFirst() {
        HomeGateway x = new HomeGateway();
        x.append(0x67617465, 0x77617920, 0x31203b64, 0x80ffff20, 0x20202020);
        Check.same("2 bytes", x.load(20), HomeGateway.SYNTAX_ERROR);
        Check.same("2 the day is missing", x.errorOffset(), 10);
        x.append(0x67617465, 0x77617920, 0x3120323b, 0x80ffff20, 0x20202020);
        Check.same("2 byte 128", x.load(20), HomeGateway.SYNTAX_ERROR);
        Check.same("2 byte 128 is no token", x.errorOffset(), 12);
        x.append(0x67617465, 0x77617920, 0x3120323b, 0x80ffff20, 0x20202020);
        Check.same("3 only the first bytes", x.load(12), 0);
    }

    private static void loadWrongLength() {
        HomeGateway x = new HomeGateway();
        Check.argument("3 load(-1)", () -> x.load(-1));
        Check.argument("3 load(MIN)", () -> x.load(Integer.MIN_VALUE));
        Check.argument("3 load(1)", () -> x.load(1));
        Check.append(x, HEAD);
        Check.argument("3 load(21)", () -> x.load(21));
        Check.argument("3 load(MAX)", () -> x.load(Integer.MAX_VALUE));
        Check.same("4 a load that threw sets no offset", x.errorOffset(), -1);
        Check.same("3 buffer unchanged", x.load(20), 0);
        Check.same("3 change", x.undo(), 0);
    }

    private static void loadEmptiesTheBuffer() {
        HomeGateway x = new HomeGateway();
        Check.append(x, HEAD + "x");
        Check.same("3 load", x.load(14), HomeGateway.SYNTAX_ERROR);
        Check.same("4 errorOffset", x.errorOffset(), 13);
        Check.argument("3 empty after an error", () -> x.load(1));
        Check.same("4 a load that threw leaves the offset", x.errorOffset(), 13);
        Check.append(x, HEAD + "x");
        Check.same("3 load", x.load(13), 0);
        Check.same("4 errorOffset", x.errorOffset(), -1);
        Check.argument("3 empty after success", () -> x.load(1));
        Check.same("3 empty text", x.load(0), HomeGateway.SYNTAX_ERROR);
        Check.same("4 errorOffset of an empty text", x.errorOffset(), 0);
    }

    private static void good(String text, int devices, int rules) {
        HomeGateway x = new HomeGateway();
        Check.same("3 load of " + text, Check.load(x, text), devices);
        Check.same("4 errorOffset of " + text, x.errorOffset(), -1);
        Check.same("5 deviceCount of " + text, x.deviceCount(), devices);
        Check.same("6 ruleCount of " + text, x.ruleCount(), rules);
    }

    private static void bad(String text, int code, int offset) {
        HomeGateway x = new HomeGateway();
        Check.same("3 load of " + text, Check.load(x, text), code);
        Check.same("4 errorOffset of " + text, x.errorOffset(), offset);
        Check.same("3 devices after " + text, x.deviceCount(), 0);
        Check.same("33 no change after " + text, x.undo(), -1);
    }

    private static void syntax(String text, int offset) {
        bad(text, HomeGateway.SYNTAX_ERROR, offset);
    }

    private static void range(String text, int offset) {
        bad(text, HomeGateway.OUT_OF_RANGE, offset);
    }

    private static void goodTexts() {
        good("gateway 1 1;", 0, 0);
        good("gateway 999 100;", 0, 0);
        good("   gateway   999   100   ;   ", 0, 0);
        good("gateway999 100;device home9 9 99;", 1, 0);
        good("gateway 0000999 00000000000000000001;", 0, 0);
        good(HEAD + "device home 1 0 0;device guest 9 9 99;device iot 5 5 5;", 3, 0);
        good(HEAD + "allow home guest 0 0;deny iot net 999 999;allow any any 0 999;", 0, 3);
        good(HEAD + "wake 0;quiet home 0 0;quiet guest 23 23;quiet iot 23 0;limit 1;", 0, 0);
        good(HEAD + "wake 1 2 3 4 5 6 7 999;limit 999;", 0, 0);
        good(HEAD + "device iot 1 1 1;".repeat(10) + "deny any any 1 1;".repeat(12), 10, 12);
        good(HEAD + "limit 5;wake 1;device home 1 1 1;allow net any 1 1;device iot 1 1 1;", 2, 1);
    }

    private static void headErrors() {
        syntax("", 0);
        syntax("   ", 3);
        syntax("gatewa 1 1;", 0);
        syntax("gateways 1 1;", 0);
        syntax("  gatewayx", 2);
        syntax("Gateway 1 1;", 0);
        syntax("7 1 1;", 0);
        syntax("gateway", 7);
        syntax("gateway  ", 9);
        syntax("gateway;", 7);
        syntax("gateway x 1;", 8);
        syntax("gateway 1;", 9);
        syntax("gateway 1 1", 11);
        syntax("gateway 1 1   ", 14);
        syntax("gateway 1 1 1;", 12);
        syntax("gateway 1 -1;", 10);
        syntax("gateway 1\t1;", 9);
        syntax("gateway 1 1;;", 12);
        syntax("gateway 1 1;gateway 1 1;", 12);
        range("gateway 0 1;", 8);
        range("gateway 1000 1;", 8);
        range("gateway 1 0;", 10);
        range("gateway 1 101;", 10);
        range("gateway 4294967297 1;", 8);
        range("gateway 18446744073709551617 1;", 8);
        range("gateway 0", 8);
        range("gateway 0 x", 8);
    }

    private static void tokens() {
        syntax(HEAD + "devicehome 1 1 1;", 13);
        syntax(HEAD + "device homes 1 1 1;", 20);
        syntax(HEAD + "device hom 1 1 1;", 20);
        syntax(HEAD + "device home 1,1 1;", 26);
        syntax(HEAD + "device home 1 1 1 limit 5;", 31);
        syntax(HEAD + "limit 5", 20);
        syntax(HEAD + "limit 5 ", 21);
        syntax(HEAD + "limit 5 6;", 21);
        syntax(HEAD + "limit 5x;", 20);
        syntax(HEAD + "limit", 18);
        syntax(HEAD + "5;", 13);
        syntax(HEAD + " \n", 14);
        syntax(HEAD + (char) 0, 13);
        syntax(HEAD + "LIMIT 5;", 13);
        syntax(HEAD + "limit `;", 19);
        syntax(HEAD + "limit {;", 19);
        syntax(HEAD + "limit /;", 19);
        syntax(HEAD + "limit :;", 19);
        syntax(HEAD + "limit 5:", 20);
        syntax(HEAD + "z{;", 13);
    }

    private static void deviceErrors() {
        syntax(HEAD + "device net 1 1 1;", 20);
        syntax(HEAD + "device any 1 1 1;", 20);
        syntax(HEAD + "device 1 1 1;", 20);
        syntax(HEAD + "device", 19);
        syntax(HEAD + "device home 1 1;", 28);
        syntax(HEAD + "device home 1 1 1 1;", 31);
        range(HEAD + "device home 0 1 1;", 25);
        range(HEAD + "device home 10 1 1;", 25);
        range(HEAD + "device home 1 10 1;", 27);
        range(HEAD + "device home 1 1 100;", 29);
        String ten = HEAD + "device home 1 1 1;".repeat(10);
        bad(ten + " device home 1 1 1;", HomeGateway.TOO_MANY, ten.length() + 1);
        bad(ten + "device", HomeGateway.TOO_MANY, ten.length());
        bad(ten + "device net", HomeGateway.TOO_MANY, ten.length());
        syntax(ten + "devices", ten.length());
    }

    private static void ruleErrors() {
        syntax(HEAD + "allow all any 1 1;", 19);
        syntax(HEAD + "deny any 1 1;", 22);
        syntax(HEAD + "allow home home 1;", 30);
        syntax(HEAD + "deny home home", 27);
        syntax(HEAD + "allow home home 1 2 3;", 33);
        range(HEAD + "allow home home 1000 1;", 29);
        range(HEAD + "allow home home 1 1000;", 31);
        range(HEAD + "deny home home 999 998;", 32);
        range(HEAD + "deny home home 1 0;", 30);
        String twelve = HEAD + "allow net iot 1 1;".repeat(6) + "deny net iot 1 1;".repeat(6);
        bad(twelve + "allow net iot 1 1;", HomeGateway.TOO_MANY, twelve.length());
        bad(twelve + "  deny", HomeGateway.TOO_MANY, twelve.length() + 2);
    }

    private static void wakeErrors() {
        syntax(HEAD + "wake;", 17);
        syntax(HEAD + "wake ", 18);
        syntax(HEAD + "wake x;", 18);
        syntax(HEAD + "wake 1 x;", 20);
        syntax(HEAD + "wake 1;wake 2;", 20);
        syntax(HEAD + "wake 1;limit 1;wake", 28);
        range(HEAD + "wake 1000;", 18);
        range(HEAD + "wake 1 1000;", 20);
        range(HEAD + "wake 1 2 01;", 22);
        String eight = HEAD + "wake 1 2 3 4 5 6 7 8 ";
        bad(eight + "9;", HomeGateway.TOO_MANY, eight.length());
        bad(eight + "9 10 x", HomeGateway.TOO_MANY, eight.length());
    }

    private static void quietErrors() {
        syntax(HEAD + "quiet net 1 1;", 19);
        syntax(HEAD + "quiet any 1 1;", 19);
        syntax(HEAD + "quiet 1 1;", 19);
        syntax(HEAD + "quiet home 1;", 25);
        syntax(HEAD + "quiet home 0 0;quiet home 1 2;", 34);
        syntax(HEAD + "quiet iot 0 0;quiet guest 1 2;quiet iot", 49);
        range(HEAD + "quiet home 24 1;", 24);
        range(HEAD + "quiet home 1 24;", 26);
        range("gateway 1 1;quiet home 0 1;", 25);
    }

    private static void limitErrors() {
        range(HEAD + "limit 0;", 19);
        range(HEAD + "limit 1000;", 19);
        syntax(HEAD + "limit 1;limit 1;", 21);
        syntax(HEAD + "limit 1; limit 1000;", 22);
    }

    private static void errorPriorities() {
        String eight = HEAD + "wake 1 2 3 4 5 6 7 8 ";
        range(eight + "1000;", eight.length());
        range(eight + "8;", eight.length());
        range("gateway 0 101;x", 8);
    }

    private static void loadReplacesAll() {
        HomeGateway x = Check.loaded("gateway 10 4;device home 1 0 0;device guest 1 0 0;"
                + "deny any any 5 5;wake 9;quiet home 1 0;limit 9;");
        x.arrive(0, 0, 1, 9);
        x.arrive(0, 0, 1, 9);
        x.arrive(0, 0, 5, 9);
        x.sleep(1);
        x.arrive(0, 1, 1, 1);
        x.tick(1);
        Check.yes("18 quiet", x.isQuiet(0));
        Check.same("3 load again", Check.load(x, "gateway 3 5;device iot 2 1 0;"), 1);
        Check.same("3 clock", x.clock(), 0);
        Check.same("3 counts", x.rejected() + x.proxied() + x.dropped(), 0);
        Check.same("3 devices", x.deviceCount(), 1);
        Check.same("3 rules", x.ruleCount(), 0);
        Check.same("3 queue", x.queueLength(0), 0);
        Check.same("3 virtual time", x.virtualTime(0), 0);
        Check.same("3 delivered", x.delivered(0), 0);
        Check.same("3 delay", x.longestDelay(0), -1);
        x.tick(1);
        Check.no("3 quiet hours are gone", x.isQuiet(0));
        x.sleep(0);
        Check.same("3 wake ports are gone", x.arrive(0, 0, 9, 1), 2);
        x.wake(0);
        Check.same("3 the limit is 200 again", x.arrive(0, 0, 1, 99), 0);
        Check.same("3 the limit is 200 again", x.arrive(0, 0, 1, 99), 0);
        Check.same("3 the limit is 200 again", x.arrive(0, 0, 1, 3), 3);
        Check.same("3 the limit is 200 again", x.arrive(0, 0, 1, 2), 0);
    }

    private static void errorLeavesTheRest() {
        HomeGateway x = Check.loaded("gateway 10 4;device home 1 0 0;device guest 1 0 0;wake 9;");
        x.arrive(0, 0, 1, 9);
        x.tick(1);
        long before = x.checksum();
        Check.same("3 error", Check.load(x, "gateway 3 5;device iot 2 1 0;wake 8;limit 0;"),
                HomeGateway.OUT_OF_RANGE);
        Check.same("3 nothing else changes", x.checksum(), before);
        Check.same("3 devices", x.deviceCount(), 2);
        x.sleep(1);
        Check.same("3 wake ports stay", x.arrive(0, 1, 8, 1), 2);
        Check.same("3 wake ports stay", x.arrive(0, 1, 9, 1), 0);
        Check.same("33 an error is no change", x.undo(), 5);
    }
}
