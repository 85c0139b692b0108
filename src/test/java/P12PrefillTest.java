/** Promise 12: prefill. */
public final class P12PrefillTest {
    private static final Check CHECK = new Check();

    public static void main(String[] args) {
        CHECK.sentence("Sets the prefill: true", P12PrefillTest::sets);
        CHECK.sentence("false, changing nothing, when n is not 1 .. 4", P12PrefillTest::wrongInputs);
        CHECK.sentence("... while the buffer waits", P12PrefillTest::changedWhileItWaits);
        CHECK.sentence("... while it plays", P12PrefillTest::changedWhileItPlays);
        CHECK.sentence("... and when it comes to rest", P12PrefillTest::keptOverRest);
        CHECK.end();
    }

    private static void sets() {
        for (int n = 1; n <= 4; n++) {
            playsFrom(n);
        }
    }

    private static void playsFrom(int n) {
        VoiceGateway g = new VoiceGateway();
        CHECK.due("prefill(" + n + ")", g.prefill(n), true);
        Calls.sendRun(g, 0, 4);
        for (int i = 1; i < n; i++) {
            g.receive();
            CHECK.due("play() with " + i + " of " + n, g.play(), VoiceGateway.EMPTY);
            CHECK.due("it waits", g.figure(0), 1);
        }
        g.receive();
        CHECK.due("play() with " + n, g.play(), 1);
        CHECK.due("it plays", g.figure(0), 2);
    }

    private static void wrongInputs() {
        for (int n : new int[] {0, 5, -1, -4, 256, Integer.MIN_VALUE, Integer.MAX_VALUE}) {
            Twins.dueFalse(CHECK, "prefill(" + n + ") at first", g -> { }, g -> g.prefill(n));
            Twins.dueFalse(CHECK, "prefill(" + n + ") when it plays", Calls::busy, g -> g.prefill(n));
            for (int set = 1; set <= 4; set++) {
                int before = set;
                Twins.dueFalse(CHECK, "prefill(" + n + ") behind prefill(" + set + ")", g -> {
                    g.prefill(before);
                    Calls.sendRun(g, 0, 2);
                    Calls.receiveAll(g);
                }, g -> g.prefill(n));
            }
        }
        VoiceGateway g = new VoiceGateway();
        g.prefill(2);
        CHECK.due("prefill(0)", g.prefill(0), false);
        CHECK.due("prefill(5)", g.prefill(5), false);
        Calls.sendRun(g, 0, 2);
        g.receive();
        CHECK.due("it is still above 1", g.play(), VoiceGateway.EMPTY);
        g.receive();
        CHECK.due("and not above 2", g.play(), 1);
    }

    private static void changedWhileItWaits() {
        VoiceGateway g = new VoiceGateway();
        Calls.sendRun(g, 0, 2);
        g.receive();
        g.prefill(3);
        CHECK.due("more are asked for", g.play(), VoiceGateway.EMPTY);
        g.receive();
        g.prefill(2);
        CHECK.due("fewer are asked for", g.figure(0), 1);
        CHECK.due("it plays when play() is called", g.play(), 1);
    }

    private static void changedWhileItPlays() {
        VoiceGateway g = new VoiceGateway();
        Calls.sendRun(g, 0, 2);
        Calls.receiveAll(g);
        g.play();
        g.prefill(4);
        CHECK.due("what plays goes on", g.play(), 1);
        CHECK.due("with nothing left too", g.play(), 1);
    }

    private static void keptOverRest() {
        VoiceGateway g = new VoiceGateway();
        g.prefill(2);
        Calls.sendRun(g, 0, 2);
        Calls.receiveAll(g);
        for (int i = 0; i < 7; i++) {
            g.play();
        }
        CHECK.due("at rest", g.figure(0), 0);
        Calls.sendRun(g, 50, 2);
        g.receive();
        CHECK.due("the prefill is the same", g.play(), VoiceGateway.EMPTY);
        g.receive();
        CHECK.due("and is met", g.play(), 1);
    }
}
