/** Promise 14: output. */
public final class P14OutputTest {
    private static final Check CHECK = new Check();

    public static void main(String[] args) {
        CHECK.sentence("How many samples the output has", P14OutputTest::howMany);
        CHECK.sentence("... from none to 256", P14OutputTest::noneTo256);
        CHECK.sentence("... and nothing is changed by asking", P14OutputTest::changesNothing);
        CHECK.end();
    }

    private static void howMany() {
        VoiceGateway g = new VoiceGateway();
        CHECK.due("output()", g.output(), 0);
        Calls.bring(g, 0, 0, false, 1, 2, 3);
        CHECK.due("a packet in the buffer is not put out", g.output(), 0);
        g.play();
        CHECK.due("after a packet", g.output(), 3);
        g.play();
        CHECK.due("after a loss", g.output(), 6);
        g.pass(2);
        CHECK.due("after pass(2)", g.output(), 4);
        Calls.playTimes(g, 4);
        CHECK.due("after three losses and coming to rest", g.output(), 13);
        g.play();
        CHECK.due("after a refused play", g.output(), 13);
        g.pass(14);
        CHECK.due("after a refused pass", g.output(), 13);
        g.feed(4);
        CHECK.due("the input is another list", g.output(), 13);
        g.pass(13);
        CHECK.due("after pass(13)", g.output(), 0);
    }

    private static void noneTo256() {
        VoiceGateway full = new VoiceGateway();
        CHECK.due("at first", full.output(), 0);
        for (int i = 0; i < 16; i++) {
            Calls.bring(full, i, 0, false, new int[16]);
            full.play();
            CHECK.due("after packet " + i, full.output(), 16 * (i + 1));
        }
        full.play();
        CHECK.due("no more than 256", full.output(), 256);
    }

    private static void changesNothing() {
        Twins.due(CHECK, "output()", 0, g -> { }, VoiceGateway::output);
        Twins.due(CHECK, "output()", 4, Calls::busy, VoiceGateway::output);
        Twins.due(CHECK, "output()", 256, Calls::fullEverywhere, VoiceGateway::output);
    }
}
