/** Promise 10: disturb. */
public final class P10DisturbTest {
    private static final Check CHECK = new Check();

    public static void main(String[] args) {
        losing();
        exchanging();
        doubling();
        cutting();
        wrongInputs();
        CHECK.end();
    }

    private static VoiceGateway lineOf(int n) {
        VoiceGateway g = new VoiceGateway();
        Calls.sendRun(g, 0, n);
        return g;
    }

    /** The low bytes of the sequences on the line, which tell the packets apart. */
    private static String order(VoiceGateway g) {
        StringBuilder text = new StringBuilder();
        for (int k = 0; k < g.line(); k++) {
            text.append(g.byteAt(k, 3));
        }
        return text.toString();
    }

    private static void losing() {
        VoiceGateway g = lineOf(5);
        CHECK.due("disturb(1, 0)", g.disturb(1, 0), true);
        CHECK.due("line", order(g), "0234");
        CHECK.due("disturb(3, 0)", g.disturb(3, 0), true);
        CHECK.due("line", order(g), "023");
        CHECK.due("disturb(0, 0)", g.disturb(0, 0), true);
        CHECK.due("line", order(g), "23");
        CHECK.due("disturb(2, 0)", g.disturb(2, 0), false);
        Calls.sendOne(g, 3, 1);
        CHECK.due("line", order(g), "235");
        CHECK.due("a new packet's bytes", Calls.bytes(g, 2), "128 11 0 5 0 0 0 5 0 0 0 1 0 1");
    }

    private static void exchanging() {
        VoiceGateway g = lineOf(4);
        CHECK.due("disturb(0, 1)", g.disturb(0, 1), true);
        CHECK.due("line", order(g), "1023");
        CHECK.due("disturb(2, 1)", g.disturb(2, 1), true);
        CHECK.due("line", order(g), "1032");
        CHECK.due("none behind it", g.disturb(3, 1), false);
        CHECK.due("line", order(g), "1032");
        VoiceGateway full = lineOf(8);
        CHECK.due("disturb(6, 1)", full.disturb(6, 1), true);
        CHECK.due("disturb(7, 1)", full.disturb(7, 1), false);
        CHECK.due("line", order(full), "01234576");
    }

    private static void doubling() {
        VoiceGateway g = lineOf(6);
        CHECK.due("disturb(1, 2)", g.disturb(1, 2), true);
        CHECK.due("disturb(6, 2)", g.disturb(6, 2), true);
        CHECK.due("line", order(g), "01234511");
        CHECK.due("the double", Calls.bytes(g, 7), Calls.bytes(g, 1));
        CHECK.due("the line has 8", g.disturb(0, 2), false);
        CHECK.due("line", order(g), "01234511");
        g.disturb(7, 3);
        CHECK.due("the double is cut", Calls.bytes(g, 7), "128 11 0 1 0 0 0 1 0 0 0 1 0");
        CHECK.due("the first one is not", Calls.bytes(g, 1), "128 11 0 1 0 0 0 1 0 0 0 1 0 101");
        g.receive();
        CHECK.due("a cut one", g.disturb(6, 2), true);
        CHECK.due("is doubled as it is", Calls.bytes(g, 7), "128 11 0 1 0 0 0 1 0 0 0 1 0");
    }

    private static void cutting() {
        VoiceGateway g = lineOf(2);
        for (int length = 13; length >= 0; length--) {
            CHECK.due("disturb(0, 3)", g.disturb(0, 3), true);
            CHECK.due("last byte", g.byteAt(0, length), VoiceGateway.BAD);
            CHECK.due("the one before", g.byteAt(0, length - 1) != VoiceGateway.BAD, length > 0);
        }
        CHECK.due("no byte", g.disturb(0, 3), false);
        CHECK.due("it is still there", g.line(), 2);
        CHECK.due("it can be doubled", g.disturb(0, 2), true);
        CHECK.due("its double has no byte", g.byteAt(2, 0), VoiceGateway.BAD);
        CHECK.due("it can be exchanged", g.disturb(0, 1), true);
        CHECK.due("the other is whole", Calls.bytes(g, 0), "128 11 0 1 0 0 0 1 0 0 0 1 0 101");
        CHECK.due("it can be lost", g.disturb(1, 0), true);
        CHECK.due("line()", g.line(), 2);
    }

    private static void wrongInputs() {
        VoiceGateway none = new VoiceGateway();
        VoiceGateway g = lineOf(3);
        String before = Calls.state(g);
        for (int how = -1; how <= 4; how++) {
            CHECK.due("disturb(0, " + how + ") on an empty line", none.disturb(0, how), false);
            for (int k : new int[] {-1, 3, 8, Integer.MIN_VALUE, Integer.MAX_VALUE}) {
                CHECK.due("disturb(" + k + ", " + how + ")", g.disturb(k, how), false);
            }
        }
        for (int how : new int[] {-1, 4, Integer.MIN_VALUE, Integer.MAX_VALUE}) {
            CHECK.due("disturb(0, " + how + ")", g.disturb(0, how), false);
        }
        CHECK.due("nothing has changed", Calls.state(g), before);
        CHECK.due("nothing has come", none.line(), 0);
    }
}
