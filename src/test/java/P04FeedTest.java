/** Promise 4: feed. */
public final class P04FeedTest {
    private static final Check CHECK = new Check();

    public static void main(String[] args) {
        CHECK.sentence("Puts a sample at the end of the input: true", P04FeedTest::atTheEnd);
        CHECK.sentence("false, changing nothing, when x is no sample", P04FeedTest::noSample);
        CHECK.sentence("false, changing nothing, when 64 are there", P04FeedTest::sixtyFour);
        CHECK.sentence("... and again true when some are taken", P04FeedTest::roomAgain);
        CHECK.end();
    }

    private static void full(VoiceGateway g) {
        for (int i = 0; i < 64; i++) {
            CHECK.due("feed " + i, g.feed(i), true);
        }
    }

    private static void atTheEnd() {
        VoiceGateway g = new VoiceGateway();
        CHECK.due("feed(32767)", g.feed(32767), true);
        CHECK.due("feed(-32768)", g.feed(-32768), true);
        CHECK.due("feed(0)", g.feed(0), true);
        CHECK.due("no fourth one", g.send(3, 4, false), VoiceGateway.EMPTY);
        CHECK.due("three", g.send(3, 3, false), 18);
        CHECK.due("in their order", Calls.bytes(g, 0).substring(27), "127 255 128 0 0 0");
    }

    private static void noSample() {
        for (int x : new int[] {32768, -32769, 40000, 65535, Integer.MAX_VALUE, Integer.MIN_VALUE}) {
            Twins.dueFalse(CHECK, "feed(" + x + ")", Calls::busy, g -> g.feed(x));
            Twins.dueFalse(CHECK, "feed(" + x + ") to an empty input", g -> { }, g -> g.feed(x));
        }
    }

    private static void sixtyFour() {
        for (int x : new int[] {0, 64, -32768, 32767, 32768}) {
            Twins.dueFalse(CHECK, "feed(" + x + ") to 64", P04FeedTest::full, g -> g.feed(x));
        }
        Twins.dueFalse(CHECK, "feed(1), all full", Calls::fullEverywhere, g -> g.feed(1));
        VoiceGateway g = new VoiceGateway();
        full(g);
        CHECK.due("the 65th", g.feed(64), false);
        for (int k = 0; k < 4; k++) {
            CHECK.due("send " + k, g.send(3, 16, false), 44);
            CHECK.due("its first sample", g.byteAt(k, 13), 16 * k);
            CHECK.due("its last sample", g.byteAt(k, 43), 16 * k + 15);
        }
        CHECK.due("nothing is left", g.send(3, 1, false), VoiceGateway.EMPTY);
    }

    private static void roomAgain() {
        VoiceGateway g = new VoiceGateway();
        full(g);
        g.send(3, 1, false);
        CHECK.due("feed(77) to 63", g.feed(77), true);
        CHECK.due("feed(78) to 64", g.feed(78), false);
        for (int k = 0; k < 4; k++) {
            g.send(3, 16, false);
        }
        CHECK.due("the last one", g.byteAt(4, 43), 77);
        CHECK.due("nothing is left", g.send(3, 1, false), VoiceGateway.EMPTY);
        CHECK.due("feed(7) to none", g.feed(7), true);
        CHECK.due("and it is used", g.send(3, 1, false), 14);
        CHECK.due("by that sample", g.byteAt(5, 13), 7);
    }
}
