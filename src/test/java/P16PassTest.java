/** Promise 16: pass. */
public final class P16PassTest {
    private static final Check CHECK = new Check();

    public static void main(String[] args) {
        putsAtTheEndOfTheInput();
        refused();
        upToTheInputsRoom();
        CHECK.end();
    }

    private static void putsAtTheEndOfTheInput() {
        VoiceGateway g = new VoiceGateway();
        Calls.bring(g, 0, 0, false, 10, 20, 30, 40);
        g.play();
        g.feed(7);
        CHECK.due("pass(3)", g.pass(3), true);
        CHECK.due("what is left", Calls.outputOf(g), "40");
        g.feed(8);
        CHECK.due("pass(1)", g.pass(1), true);
        CHECK.due("nothing is left", g.output(), 0);
        CHECK.due("the input has six", g.send(3, 7, false), VoiceGateway.EMPTY);
        g.begin(0, 0, 0);
        CHECK.due("sent on", g.send(3, 6, false), 24);
        CHECK.due("in order", Calls.bytes(g, 0), "128 11 0 0 0 0 0 0 0 0 0 0 0 7 0 10 0 20 0 30 0 8 0 40");
    }

    private static void refused() {
        VoiceGateway g = new VoiceGateway();
        CHECK.due("pass(0) of nothing", g.pass(0), true);
        CHECK.due("pass(1) of nothing", g.pass(1), false);
        Calls.bring(g, 0, 0, false, 1, 2, 3);
        g.play();
        String before = Calls.state(g);
        for (int n : new int[] {-1, 4, 64, 65, Integer.MIN_VALUE, Integer.MAX_VALUE}) {
            CHECK.due("pass(" + n + ")", g.pass(n), false);
        }
        CHECK.due("pass(0)", g.pass(0), true);
        CHECK.due("nothing has changed", Calls.state(g), before);
        CHECK.due("nor the input", g.send(3, 1, false), VoiceGateway.EMPTY);
        CHECK.due("pass(3)", g.pass(3), true);
    }

    private static void upToTheInputsRoom() {
        VoiceGateway g = new VoiceGateway();
        for (int i = 0; i < 5; i++) {
            Calls.bring(g, i, 0, false, new int[] {i, 0, 0, 0, 0, 0, 0, 0, 0, 0, 0, 0, 0, 0, 0, 0});
            g.play();
        }
        CHECK.due("65 into an empty input", g.pass(65), false);
        g.feed(99);
        CHECK.due("64 into an input with one", g.pass(64), false);
        CHECK.due("the output is as it was", g.output(), 80);
        CHECK.due("63", g.pass(63), true);
        CHECK.due("the input is full", g.feed(1), false);
        CHECK.due("pass(0) with a full input", g.pass(0), true);
        CHECK.due("pass(1) with a full input", g.pass(1), false);
        CHECK.due("output()", g.output(), 17);
        CHECK.due("its first one", g.sample(1), 4);
        g.send(0, 16, false);
        CHECK.due("pass(16) with room for 16", g.pass(16), true);
        CHECK.due("output()", g.output(), 1);
    }
}
