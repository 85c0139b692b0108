/** Promise 7: line. */
public final class P07LineTest {
    private static final Check CHECK = new Check();

    public static void main(String[] args) {
        CHECK.sentence("How many packets are on the line", P07LineTest::howMany);
        CHECK.sentence("... from none to 8", P07LineTest::noneToEight);
        CHECK.sentence("... and nothing is changed by asking", P07LineTest::changesNothing);
        CHECK.end();
    }

    private static void howMany() {
        VoiceGateway g = new VoiceGateway();
        Calls.sendRun(g, 0, 8);
        g.receive();
        CHECK.due("line() after receive", g.line(), 7);
        g.disturb(0, 0);
        CHECK.due("line() after a loss", g.line(), 6);
        g.disturb(0, 1);
        CHECK.due("line() after an exchange", g.line(), 6);
        g.disturb(0, 2);
        CHECK.due("line() after a doubling", g.line(), 7);
        g.disturb(0, 3);
        CHECK.due("line() after damage", g.line(), 7);
        g.poke(0, 0, 0);
        CHECK.due("line() after a poke", g.line(), 7);
        g.receive();
        CHECK.due("line() after a BAD packet", g.line(), 6);
    }

    private static void noneToEight() {
        VoiceGateway g = new VoiceGateway();
        CHECK.due("line()", g.line(), 0);
        for (int n = 1; n <= 8; n++) {
            Calls.sendOne(g, 3, n);
            CHECK.due("line() with " + n, g.line(), n);
        }
        g.feed(0);
        g.send(0, 1, false);
        CHECK.due("line() when full", g.line(), 8);
        for (int n = 7; n >= 0; n--) {
            g.receive();
            CHECK.due("line() with " + n, g.line(), n);
        }
        g.receive();
        CHECK.due("line() when nothing was to be taken", g.line(), 0);
    }

    private static void changesNothing() {
        Twins.due(CHECK, "line()", 0, g -> { }, VoiceGateway::line);
        Twins.due(CHECK, "line()", 2, Calls::busy, VoiceGateway::line);
        Twins.due(CHECK, "line()", 8, Calls::fullEverywhere, VoiceGateway::line);
    }
}
