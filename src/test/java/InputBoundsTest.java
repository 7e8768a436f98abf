/** The bounds of promises 1 to 7: a new object, the input buffer, load, errorOffset and the counts. */
public final class InputBoundsTest {
    private static final int SYNTAX = HomeGateway.SYNTAX_ERROR;
    private static final int SPACES = 0x20202020;

    private InputBoundsTest() {
    }

    public static void main(String[] args) {
        newObject();
        beforeTheFirstLoad();
        twentyBytes();
        signOfBytes();
        ninehundredBytes();
        fullBuffer();
        lengthOfLoad();
        onlyTheFirstBytes();
        loadReplacesAll();
        countsAfterLoad();
        bufferAfterLoad();
        errorLeavesTheRest();
        emptyText();
        errorOffset();
        counts();
        Check.end();
    }

    private static int spaces(HomeGateway x) {
        return x.append(SPACES, SPACES, SPACES, SPACES, SPACES);
    }

    private static void newObject() {
        Check.sentence("Creates an object without a gateway, with an empty input buffer");
        Check.same("the first append", spaces(new HomeGateway()), 20);
        Check.same("load(0)", new HomeGateway().load(0), SYNTAX);
        Story.argument("load(1)", HomeGateway::new, x -> x.load(1));
        Story.state("tick(1)", HomeGateway::new, x -> x.tick(1));
        Story.state("addRule", HomeGateway::new, x -> x.addRule(true, 4, 4, 0, 999));
        Story.refused("undo", HomeGateway::new, x -> x.undo(), "-1");
    }

    private static void beforeTheFirstLoad() {
        Check.sentence("Before the first successful load there is no gateway: there are no devices, rules and "
                + "wake ports, and the clock is 0");
        noGateway(new HomeGateway());
        HomeGateway x = new HomeGateway();
        Check.load(x, "gateway 1 1;device home 1 1 1;allow any any 1 1;wake 1");
        noGateway(x);
        noGateway(Scenes.undone());
    }

    private static void noGateway(HomeGateway x) {
        Check.same("deviceCount", x.deviceCount(), 0);
        Check.same("ruleCount", x.ruleCount(), 0);
        Check.same("clock", x.clock(), 0);
        Check.same("counts", x.rejected() + x.proxied() + x.dropped(), 0);
        Check.same("checksum", x.checksum(), 0);
        Check.same("fairness", x.fairness(), 1000);
        Check.same("drainTime", x.drainTime(0), 0);
        Check.outside("state(0)", () -> x.state(0));
        Check.outside("arrive from the internet", () -> x.arrive(-1, 0, 1, 1));
        Check.outside("removeRule(0)", () -> x.removeRule(0));
        Check.state("tick(1)", () -> x.tick(1));
        for (int group = 0; group < 3; group++) {
            Check.no("isQuiet " + group, x.isQuiet(group));
        }
        for (int from = 0; from <= 3; from++) {
            Check.same("matching", x.matching(from, 0, 1), -1);
        }
    }

    private static void twentyBytes() {
        Check.sentence("Appends 20 bytes to the input buffer: the 4 bytes of each argument, the most significant "
                + "byte first");
        HomeGateway x = new HomeGateway();
        x.append(0x67617465, 0x77617920, 0x37203930, 0x3b646576, 0x69636520);
        Check.same("append", x.append(0x69206f74, 0x20322031, 0x20303b20, SPACES, SPACES), 40);
        Check.same("load", x.load(40), SYNTAX);
        Check.same("the broken group", x.errorOffset(), 20);
        x.append(0x67617465, 0x77617920, 0x37203930, 0x3b646576, 0x69636520);
        x.append(0x696f7420, 0x32203120, 0x303b2020, SPACES, 0x20202078);
        Check.same("the last byte too", x.load(40), SYNTAX);
        Check.same("the last byte", x.errorOffset(), 39);
        x.append(0x67617465, 0x77617920, 0x37203930, 0x3b646576, 0x69636520);
        x.append(0x696f7420, 0x32203120, 0x303b2020, SPACES, SPACES);
        Check.same("load", x.load(40), 1);
        Check.same("weight", x.weight(0), 2);
    }

    /** A byte from 128 on makes its word negative. */
    private static void signOfBytes() {
        Check.sentence("Appends 20 bytes: the 4 bytes of each argument");
        for (int shift = 0; shift < 32; shift += 8) {
            HomeGateway x = new HomeGateway();
            spaces(x);
            int word = SPACES & ~(255 << shift) | 0xa0 << shift;
            x.append(word, SPACES, SPACES, SPACES, SPACES);
            Check.same("byte 160", x.load(40), SYNTAX);
            Check.same("the offset of byte 160", x.errorOffset(), 20 + (24 - shift) / 8);
        }
    }

    private static void ninehundredBytes() {
        Check.sentence("Returns the new length of the buffer; -1 if it would exceed 900 bytes, and the buffer is "
                + "unchanged then");
        HomeGateway x = new HomeGateway();
        for (int length = 20; length <= 900; length += 20) {
            Check.same("append", spaces(x), length);
        }
        Check.same("append to 900 bytes", spaces(x), -1);
        Check.same("append to 900 bytes again", spaces(x), -1);
        Check.same("load(900)", x.load(900), SYNTAX);
        Check.same("900 spaces", x.errorOffset(), 900);
        Check.same("append after load", spaces(x), 20);
    }

    private static HomeGateway full() {
        HomeGateway x = Check.loaded(Scenes.HOUSE);
        Check.append(x, " ".repeat(881) + "gateway 7 9;limit 9");
        return x;
    }

    private static void fullBuffer() {
        Check.sentence("-1 if it would exceed 900 bytes, and the buffer is unchanged then");
        Story.refused("append", InputBoundsTest::full, x -> x.append(0x3b3b3b3b, 1, 2, 3, 4), "-1");
        HomeGateway x = new HomeGateway();
        Check.append(x, " ".repeat(880) + "gateway 7 9;limit 9;");
        Check.same("append", x.append(0, 0, 0, 0, 0), -1);
        Check.same("load of 900 bytes", x.load(900), 0);
        HomeGateway y = new HomeGateway();
        Check.append(y, "gateway 7 9;limit 9;" + " ".repeat(880));
        Check.same("append", y.append(0, 0, 0, 0, 0), -1);
        Check.same("load of 900 bytes", y.load(900), 0);
    }

    private static void lengthOfLoad() {
        Check.sentence("Throws IllegalArgumentException if length is negative or greater than the length of the "
                + "buffer; the buffer is unchanged then");
        int all = (Scenes.NEXT.length() + 19) / 20 * 20;
        for (int wrong : new int[] {Integer.MIN_VALUE, -1, all + 1, 900, 901, Integer.MAX_VALUE}) {
            Story.argument("load(" + wrong + ")", Scenes::empty, x -> x.load(wrong));
            Story.argument("load(" + wrong + ")", Scenes::busy, x -> x.load(wrong));
            Story.argument("load(" + wrong + ")", Scenes::young, x -> x.load(wrong));
        }
        Check.same("load of all", Scenes.busy().load(all), 1);
        Check.same("load of all but the spaces", Scenes.busy().load(Scenes.NEXT.length()), 1);
        Check.same("load of nothing", Scenes.busy().load(0), SYNTAX);
        Story.argument("load(901)", InputBoundsTest::full, x -> x.load(901));
        Check.same("load(900)", full().load(900), SYNTAX);
        Check.same("load(0) of an empty buffer", new HomeGateway().load(0), SYNTAX);
    }

    private static void onlyTheFirstBytes() {
        Check.sentence("Reads the first bytes of the input buffer as a setup text");
        String text = "gateway 7 10;limit 1000;";
        part(text, 13, 0, -1);
        part(text, 12, SYNTAX, 12);
        part(text, 11, SYNTAX, 11);
        part(text, 7, SYNTAX, 7);
        part(text, 6, SYNTAX, 0);
        part(text, 0, SYNTAX, 0);
        part(text, 14, SYNTAX, 13);
        part(text, 22, SYNTAX, 22);
        part(text, 23, HomeGateway.OUT_OF_RANGE, 19);
        part(text, 24, HomeGateway.OUT_OF_RANGE, 19);
        part("gateway 7 10;       x", 20, 0, -1);
        part("gateway 7 10;       x", 21, SYNTAX, 20);
        HomeGateway x = new HomeGateway();
        Check.append(x, "gateway 7 10;limit 99999999999999999999;");
        x.load(40);
        part(x, "gateway 7 10;limit 9", 20, SYNTAX, 20);
    }

    private static void part(String text, int length, int answer, int offset) {
        part(new HomeGateway(), text, length, answer, offset);
    }

    private static void part(HomeGateway x, String text, int length, int answer, int offset) {
        Check.append(x, text);
        Check.same("load(" + length + ") of " + text, x.load(length), answer);
        Check.same("errorOffset of " + length + " bytes of " + text, x.errorOffset(), offset);
    }

    /** Whatever was there before, or has just been refused or foretold, nothing of it is left. */
    private static void loadReplacesAll() {
        Check.sentence("replaces all data by it");
        String rich = "gateway 9 3;" + "device guest 9 9 1;".repeat(10) + "deny any any 0 999;".repeat(12)
                + "quiet home 0 2;quiet guest 0 2;quiet iot 0 2;wake 1 9 85;limit 1;";
        for (String text : new String[] {"gateway 4 3;device iot 2 1 3;device home 1 0 0;", "gateway 1 1;", rich}) {
            replaces("a busy house", text, InputBoundsTest::busyAndEmpty);
            replaces("many devices and rules", text, () -> Check.loaded(rich));
            replaces("an error", text, () -> after(HomeGateway::new, x -> Check.load(x, rich + "x")));
            replaces("an error in a busy house", text,
                    () -> after(InputBoundsTest::busyAndEmpty, x -> Check.load(x, rich + "x")));
            replaces("drainTime", text, () -> after(InputBoundsTest::busyAndEmpty, x -> x.drainTime(300)));
            replaces("drainTime of sleepers", text,
                    () -> after(() -> Check.loaded("gateway 1 9;device home 1 1 2;device home 1 1 1;"),
                            x -> 10 * x.arrive(0, 0, 1, 3) + x.drainTime(300)));
        }
    }

    private static HomeGateway after(Story.Scene scene, Story.Call call) {
        return Story.after(scene, call).make();
    }

    private static void replaces(String before, String text, Story.Scene scene) {
        Story.Call load = x -> Check.load(x, text);
        Check.same("load after " + before, Story.futures(Story.after(scene, load)),
                Story.futures(() -> Check.loaded(text)));
        HomeGateway x = Story.after(scene, load).make();
        int devices = x.deviceCount();
        Check.outside("beyond the last device after " + before, () -> x.state(devices));
    }

    private static void countsAfterLoad() {
        Check.sentence("The clock is 0 then, and all counts are 0");
        HomeGateway x = Check.loaded(Scenes.HOUSE);
        x.arrive(-1, 0, 1, 1);
        x.arrive(0, 0, 1, 41);
        x.sleep(2);
        x.arrive(0, 2, 1, 1);
        x.tick(1);
        Check.same("clock", x.clock(), 1);
        Check.same("counts", 100 * x.rejected() + 10 * x.proxied() + x.dropped(), 111);
        Check.load(x, Scenes.HOUSE);
        Check.same("clock", x.clock(), 0);
        Check.same("rejected", x.rejected(), 0);
        Check.same("proxied", x.proxied(), 0);
        Check.same("dropped", x.dropped(), 0);
    }

    private static void bufferAfterLoad() {
        Check.sentence("The input buffer is empty afterwards, also if the text has an error");
        for (String text : new String[] {"gateway 1 1;", "gateway 0 1;", "gateway", "gateway 1 1;limit 1;limit 1;"}) {
            HomeGateway x = new HomeGateway();
            Check.append(x, text + " ".repeat(40));
            x.load(text.length());
            Check.argument("load(1) after " + text, () -> x.load(1));
            Check.same("append after " + text, spaces(x), 20);
            Check.same("only spaces after " + text, x.load(20), SYNTAX);
            Check.same("only spaces after " + text, x.errorOffset(), 20);
        }
        HomeGateway x = Scenes.busy();
        x.load(0);
        Check.argument("load(1) after load(0)", () -> x.load(1));
    }

    private static void errorLeavesTheRest() {
        Check.sentence("An error leaves all other data unchanged");
        String[] wrong = {"", "x", "gateway 0 1;", "gateway 9 9;device home 9 9 99;limit 0;",
            "gateway 1 1;" + "device iot 1 1 1;".repeat(11), "gateway 1 1;" + "deny any any 0 999;".repeat(13),
            "gateway 9 9;quiet home 0 8;quiet iot 0 8;wake 1 2 3 4 5 6 7 8 9;"};
        for (String text : wrong) {
            for (Story.Scene scene : new Story.Scene[] {HomeGateway::new, InputBoundsTest::youngAndEmpty,
                InputBoundsTest::busyAndEmpty}) {
                int code = Check.load(new HomeGateway(), text);
                Check.yes("an error in " + text, code < 0);
                Story.leavesGateway("load of " + text, scene, x -> Check.load(x, text), code);
            }
        }
    }

    private static HomeGateway youngAndEmpty() {
        HomeGateway x = Scenes.young();
        x.load(0);
        return x;
    }

    private static HomeGateway busyAndEmpty() {
        HomeGateway x = Scenes.busy();
        x.load(0);
        return x;
    }

    private static void emptyText() {
        Check.sentence("An empty text has a SYNTAX_ERROR");
        HomeGateway x = Scenes.empty();
        Check.same("load(0)", x.load(0), SYNTAX);
        Check.same("its offset", x.errorOffset(), 0);
        Check.same("no gateway", x.deviceCount(), 0);
        Check.same("no change", x.undo(), -1);
        Check.state("no gateway", () -> x.tick(1));
    }

    private static void errorOffset() {
        Check.sentence("Returns the offset of the error found by the latest call of load that did not throw; -1 if "
                + "it found none or if there was no such call");
        HomeGateway x = new HomeGateway();
        Check.same("no load", x.errorOffset(), -1);
        Check.argument("load(1)", () -> x.load(1));
        Check.same("only a load that threw", x.errorOffset(), -1);
        Check.load(x, "gateway 5;");
        Check.same("an error", x.errorOffset(), 9);
        Check.argument("load(-1)", () -> x.load(-1));
        Check.same("a load that threw", x.errorOffset(), 9);
        spaces(x);
        Check.same("append", x.errorOffset(), 9);
        x.load(20);
        Check.same("another error", x.errorOffset(), 20);
        x.load(0);
        Check.same("an error at 0", x.errorOffset(), 0);
        Check.load(x, "gateway 5 5;");
        Check.same("no error", x.errorOffset(), -1);
        Check.argument("load(1)", () -> x.load(1));
        Check.same("a load that threw", x.errorOffset(), -1);
        HomeGateway y = new HomeGateway();
        Check.append(y, " ".repeat(900));
        y.load(900);
        Check.same("the largest offset", y.errorOffset(), 900);
    }

    private static void counts() {
        Check.sentence("Returns the number of devices; the number of rules; the clock");
        HomeGateway x = new HomeGateway();
        for (int devices = 0; devices <= 10; devices++) {
            Check.same("load", Check.load(x, "gateway 1 1;" + "device iot 1 1 1;".repeat(devices)), devices);
            Check.same("deviceCount", x.deviceCount(), devices);
        }
        for (int rules = 0; rules <= 12; rules++) {
            Check.load(x, "gateway 1 1;" + "deny any net 1 1;".repeat(rules));
            Check.same("ruleCount", x.ruleCount(), rules);
        }
        x.tick(1);
        Check.same("clock", x.clock(), 1);
        x.tick(100);
        Check.same("clock", x.clock(), 101);
    }
}
