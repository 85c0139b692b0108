import java.util.function.Consumer;

/** Promise 10: disturb. */
public final class P10DisturbTest {
    private static final Check CHECK = new Check();

    public static void main(String[] args) {
        CHECK.sentence("how = 0: it is lost", P10DisturbTest::losing);
        CHECK.sentence("1: it is exchanged with the one behind it", P10DisturbTest::exchanging);
        CHECK.sentence("2: it comes once more at the end of the line", P10DisturbTest::doubling);
        CHECK.sentence("3: its last byte is cut off", P10DisturbTest::cutting);
        CHECK.sentence("false, changing nothing, when there is no such packet", P10DisturbTest::noPacket);
        CHECK.sentence("false, changing nothing, when how is not 0 .. 3", P10DisturbTest::noHow);
        CHECK.sentence("false, changing nothing, when there is none behind it (1)", P10DisturbTest::noneBehind);
        CHECK.sentence("false, changing nothing, when the line has 8 (2)", P10DisturbTest::lineHas8);
        CHECK.sentence("false, changing nothing, when it has no byte (3)", P10DisturbTest::hasNoByte);
        CHECK.end();
    }

    private static VoiceGateway lineOf(int n) {
        VoiceGateway g = new VoiceGateway();
        Calls.sendRun(g, 0, n);
        return g;
    }

    /** The low bytes of the sequences on the line, which tell the packets apart. */
    private static String order(VoiceGateway g) {
        StringBuilder text = new StringBuilder();
        for (int k = 0; k < g.line(); k++) {
            text.append(g.byteAt(k, 3));
        }
        return text.toString();
    }

    private static void losing() {
        VoiceGateway g = lineOf(5);
        CHECK.due("disturb(1, 0)", g.disturb(1, 0), true);
        CHECK.due("line", order(g), "0234");
        CHECK.due("disturb(3, 0)", g.disturb(3, 0), true);
        CHECK.due("line", order(g), "023");
        CHECK.due("disturb(0, 0)", g.disturb(0, 0), true);
        CHECK.due("line", order(g), "23");
        CHECK.due("disturb(2, 0)", g.disturb(2, 0), false);
        Calls.sendOne(g, 3, 1);
        CHECK.due("line", order(g), "235");
        CHECK.due("a new packet's bytes", Calls.bytes(g, 2), "128 11 0 5 0 0 0 5 0 0 0 1 0 1");
    }

    private static void exchanging() {
        VoiceGateway g = lineOf(4);
        CHECK.due("disturb(0, 1)", g.disturb(0, 1), true);
        CHECK.due("line", order(g), "1023");
        CHECK.due("disturb(2, 1)", g.disturb(2, 1), true);
        CHECK.due("line", order(g), "1032");
        CHECK.due("none behind it", g.disturb(3, 1), false);
        CHECK.due("line", order(g), "1032");
        VoiceGateway full = lineOf(8);
        CHECK.due("disturb(6, 1)", full.disturb(6, 1), true);
        CHECK.due("disturb(7, 1)", full.disturb(7, 1), false);
        CHECK.due("line", order(full), "01234576");
    }

    private static void doubling() {
        VoiceGateway g = lineOf(6);
        CHECK.due("disturb(1, 2)", g.disturb(1, 2), true);
        CHECK.due("disturb(6, 2)", g.disturb(6, 2), true);
        CHECK.due("line", order(g), "01234511");
        CHECK.due("the double", Calls.bytes(g, 7), Calls.bytes(g, 1));
        CHECK.due("the line has 8", g.disturb(0, 2), false);
        CHECK.due("line", order(g), "01234511");
        g.disturb(7, 3);
        CHECK.due("the double is cut", Calls.bytes(g, 7), "128 11 0 1 0 0 0 1 0 0 0 1 0");
        CHECK.due("the first one is not", Calls.bytes(g, 1), "128 11 0 1 0 0 0 1 0 0 0 1 0 101");
        g.receive();
        CHECK.due("a cut one", g.disturb(6, 2), true);
        CHECK.due("is doubled as it is", Calls.bytes(g, 7), "128 11 0 1 0 0 0 1 0 0 0 1 0");
    }

    private static void cutting() {
        VoiceGateway g = lineOf(2);
        for (int length = 13; length >= 0; length--) {
            CHECK.due("disturb(0, 3)", g.disturb(0, 3), true);
            CHECK.due("last byte", g.byteAt(0, length), VoiceGateway.BAD);
            CHECK.due("the one before", g.byteAt(0, length - 1) != VoiceGateway.BAD, length > 0);
        }
        CHECK.due("no byte", g.disturb(0, 3), false);
        CHECK.due("it is still there", g.line(), 2);
        CHECK.due("it can be doubled", g.disturb(0, 2), true);
        CHECK.due("its double has no byte", g.byteAt(2, 0), VoiceGateway.BAD);
        CHECK.due("it can be exchanged", g.disturb(0, 1), true);
        CHECK.due("the other is whole", Calls.bytes(g, 0), "128 11 0 1 0 0 0 1 0 0 0 1 0 101");
        CHECK.due("it can be lost", g.disturb(1, 0), true);
        CHECK.due("line()", g.line(), 2);
    }

    private static void dueFalse(String when, Consumer<VoiceGateway> past, int k, int how) {
        Twins.dueFalse(CHECK, "disturb(" + k + ", " + how + ") " + when, past, g -> g.disturb(k, how));
    }

    private static void noPacket() {
        for (int how = -1; how <= 4; how++) {
            dueFalse("on an empty line", g -> { }, 0, how);
            for (int k : new int[] {-1, 2, 3, 7, 8, Integer.MIN_VALUE, Integer.MAX_VALUE}) {
                dueFalse("of two packets", Calls::busy, k, how);
            }
            dueFalse("of eight packets", g -> Calls.sendRun(g, 0, 8), 8, how);
            dueFalse("of eight packets", g -> Calls.sendRun(g, 0, 8), -1, how);
        }
    }

    private static void noHow() {
        for (int how : new int[] {-1, 4, 5, 256, Integer.MIN_VALUE, Integer.MAX_VALUE}) {
            dueFalse("of two packets", Calls::busy, 0, how);
            dueFalse("of two packets", Calls::busy, 1, how);
        }
    }

    private static void noneBehind() {
        for (int n = 1; n <= 8; n++) {
            int packets = n;
            dueFalse("of " + n, g -> Calls.sendRun(g, 0, packets), n - 1, 1);
        }
        dueFalse("of two packets", Calls::busy, 1, 1);
        VoiceGateway g = lineOf(8);
        CHECK.due("the last but one", g.disturb(6, 1), true);
        CHECK.due("line", order(g), "01234576");
    }

    private static void lineHas8() {
        for (int k = 0; k < 8; k++) {
            dueFalse("of eight packets", g -> Calls.sendRun(g, 0, 8), k, 2);
        }
        dueFalse("when all is full", Calls::fullEverywhere, 3, 2);
        VoiceGateway g = lineOf(7);
        CHECK.due("of seven", g.disturb(6, 2), true);
        CHECK.due("of eight", g.disturb(6, 2), false);
        CHECK.due("line", order(g), "01234566");
        g.disturb(0, 0);
        CHECK.due("of seven again", g.disturb(0, 2), true);
        CHECK.due("line", order(g), "12345661");
    }

    private static void withoutBytes(VoiceGateway g) {
        Calls.sendRun(g, 0, 3);
        for (int i = 0; i < 14; i++) {
            CHECK.due("cut " + i, g.disturb(1, 3), true);
        }
    }

    private static void hasNoByte() {
        dueFalse("without a byte", P10DisturbTest::withoutBytes, 1, 3);
        VoiceGateway g = new VoiceGateway();
        withoutBytes(g);
        CHECK.due("its neighbours have some", g.disturb(0, 3) && g.disturb(2, 3), true);
        CHECK.due("line", Calls.lineOf(g), "[128 11 0 0 0 0 0 0 0 0 0 1 0][][128 11 0 2 0 0 0 2 0 0 0 1 0]");
    }
}
