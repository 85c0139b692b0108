/** Promise 15: sample. */
public final class P15SampleTest {
    private static final Check CHECK = new Check();
    private static final int NONE = 40000;

    public static void main(String[] args) {
        CHECK.sentence("The i-th sample of the output", P15SampleTest::samples);
        CHECK.sentence("40000 when there is none: below 0, or not that many", P15SampleTest::thereIsNone);
        CHECK.sentence("... in an empty output", P15SampleTest::emptyOutput);
        CHECK.sentence("... in a full output", P15SampleTest::fullOutput);
        CHECK.sentence("... of what was passed on", P15SampleTest::passedOn);
        CHECK.sentence("... and nothing is changed by asking", P15SampleTest::changesNothing);
        CHECK.end();
    }

    private static VoiceGateway withEight() {
        VoiceGateway g = new VoiceGateway();
        Calls.bring(g, 0, 0, false, 32767, -32768, 0, -5);
        Calls.playTimes(g, 2);
        return g;
    }

    private static void samples() {
        CHECK.due("output", Calls.outputOf(withEight()), "32767 -32768 0 -5 16383 -16384 0 -2");
    }

    private static void thereIsNone() {
        VoiceGateway g = withEight();
        CHECK.due("sample(7)", g.sample(7), -2);
        for (int i : new int[] {-1, 8, 9, 255, 256, Integer.MIN_VALUE, Integer.MAX_VALUE}) {
            CHECK.due("sample(" + i + ")", g.sample(i), NONE);
        }
    }

    private static void emptyOutput() {
        VoiceGateway g = new VoiceGateway();
        for (int i : new int[] {0, 1, -1, 255, 256}) {
            CHECK.due("sample(" + i + ")", g.sample(i), NONE);
        }
        Calls.bring(g, 0, 0, false, 7);
        CHECK.due("a packet in the buffer is not put out", g.sample(0), NONE);
    }

    private static void fullOutput() {
        VoiceGateway full = new VoiceGateway();
        for (int i = 0; i < 16; i++) {
            Calls.bring(full, i, 0, false, new int[] {i, 0, 0, 0, 0, 0, 0, 0, 0, 0, 0, 0, 0, 0, 0, -i});
            full.play();
        }
        CHECK.due("sample(240)", full.sample(240), 15);
        CHECK.due("sample(255)", full.sample(255), -15);
        CHECK.due("sample(256)", full.sample(256), NONE);
        CHECK.due("sample(-1)", full.sample(-1), NONE);
    }

    private static void passedOn() {
        VoiceGateway g = withEight();
        g.pass(3);
        CHECK.due("the first one then", g.sample(0), -5);
        CHECK.due("the last one", g.sample(4), -2);
        CHECK.due("none behind it", g.sample(5), NONE);
        g.pass(5);
        CHECK.due("nothing is left", g.sample(0), NONE);
    }

    private static void changesNothing() {
        Twins.due(CHECK, "sample(1)", -2000, Calls::busy, g -> g.sample(1));
        Twins.due(CHECK, "sample(4)", NONE, Calls::busy, g -> g.sample(4));
        Twins.due(CHECK, "sample(-1)", NONE, Calls::busy, g -> g.sample(-1));
    }
}
