import java.util.List;
import java.util.function.Consumer;

/** Promise 16: pass. */
public final class P16PassTest {
    private static final Check CHECK = new Check();

    public static void main(String[] args) {
        CHECK.sentence("Takes the first n samples from the output and puts them at the end of the input: true",
                P16PassTest::putsAtTheEndOfTheInput);
        CHECK.sentence("... what was played can be sent on with another coding", P16PassTest::sentOn);
        CHECK.sentence("false, changing nothing, when n is below 0", P16PassTest::belowZero);
        CHECK.sentence("... but 0 is not", P16PassTest::none);
        CHECK.sentence("false, changing nothing, when the output has fewer", P16PassTest::fewer);
        CHECK.sentence("false, changing nothing, when the input would have more than 64", P16PassTest::moreThan64);
        CHECK.sentence("... more than one of these", P16PassTest::moreThanOneReason);
        CHECK.end();
    }

    private static void putsAtTheEndOfTheInput() {
        VoiceGateway g = new VoiceGateway();
        Calls.bring(g, 0, 0, false, 10, 20, 30, 40);
        g.play();
        g.feed(7);
        CHECK.due("pass(3)", g.pass(3), true);
        CHECK.due("what is left", Calls.outputOf(g), "40");
        g.feed(8);
        CHECK.due("pass(1)", g.pass(1), true);
        CHECK.due("nothing is left", g.output(), 0);
        CHECK.due("the input has six", g.send(3, 7, false), VoiceGateway.EMPTY);
        g.begin(0, 0, 0);
        CHECK.due("sent on", g.send(3, 6, false), 24);
        CHECK.due("in order", Calls.bytes(g, 0), "128 11 0 0 0 0 0 0 0 0 0 0 0 7 0 10 0 20 0 30 0 8 0 40");
    }

    private static void sentOn() {
        VoiceGateway g = new VoiceGateway();
        Calls.sendOne(g, 0, 300, -300);
        g.receive();
        g.play();
        CHECK.due("as played", Calls.outputOf(g), "296 -296");
        CHECK.due("pass(2)", g.pass(2), true);
        CHECK.due("sent on with coding 1", g.send(1, 2, false), 14);
        CHECK.due("packet", Calls.bytes(g, 0), "128 0 0 1 0 0 0 2 0 0 0 0 229 101");
    }

    private static void dueFalse(String when, Consumer<VoiceGateway> past, int n) {
        Twins.dueFalse(CHECK, "pass(" + n + ") " + when, past, g -> g.pass(n));
    }

    private static void belowZero() {
        for (int n : new int[] {-1, -2, -64, -256, Integer.MIN_VALUE}) {
            dueFalse("of nothing", g -> { }, n);
            dueFalse("of four", Calls::busy, n);
            dueFalse("of a full output", Calls::fullOutput, n);
        }
    }

    private static void none() {
        for (Consumer<VoiceGateway> past : List.<Consumer<VoiceGateway>>of(g -> { }, Calls::busy, Calls::fullEverywhere)) {
            Twins.due(CHECK, "pass(0)", 1, past, g -> g.pass(0) ? 1 : 0);
        }
    }

    private static void fewer() {
        for (int n : new int[] {1, 2, 64, Integer.MAX_VALUE}) {
            dueFalse("of nothing", g -> { }, n);
        }
        for (int n : new int[] {5, 6, 61, 62, 64, 65, Integer.MAX_VALUE}) {
            dueFalse("of four", Calls::busy, n);
        }
        VoiceGateway g = new VoiceGateway();
        Calls.busy(g);
        CHECK.due("pass(5) of four", g.pass(5), false);
        CHECK.due("pass(4) of four", g.pass(4), true);
        CHECK.due("pass(1) of none", g.pass(1), false);
    }

    /** A full output and an input with n samples. */
    private static void inputOf(VoiceGateway g, int n) {
        Calls.fullOutput(g);
        for (int i = 0; i < n; i++) {
            g.feed(i);
        }
    }

    private static void moreThan64() {
        for (int fed : new int[] {0, 1, 32, 63, 64}) {
            dueFalse("to " + fed, g -> inputOf(g, fed), 64 - fed + 1);
            VoiceGateway g = new VoiceGateway();
            inputOf(g, fed);
            CHECK.due("pass(" + (64 - fed) + ") to " + fed, g.pass(64 - fed), true);
            CHECK.due("the input is full", g.feed(1), false);
            CHECK.due("output()", g.output(), 256 - 64 + fed);
            CHECK.due("pass(1) to 64", g.pass(1), false);
            g.send(0, 16, false);
            CHECK.due("pass(17) to 48", g.pass(17), false);
            CHECK.due("pass(16) to 48", g.pass(16), true);
        }
        dueFalse("to none", Calls::fullOutput, 256);
        dueFalse("to 64", Calls::fullEverywhere, 1);
    }

    private static void moreThanOneReason() {
        dueFalse("of 256 to 64", Calls::fullEverywhere, 257);
        dueFalse("of 256 to 64", Calls::fullEverywhere, -1);
        dueFalse("of 256 to 64", Calls::fullEverywhere, Integer.MAX_VALUE);
        dueFalse("of 256 to 64", Calls::fullEverywhere, Integer.MIN_VALUE);
        dueFalse("of none to 64", g -> Calls.feedAll(g, new int[64]), 1);
    }
}
