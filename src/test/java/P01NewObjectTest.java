/** Promise 1: a new object is as the terms say, and shares nothing with another one. */
public final class P01NewObjectTest {
    private static final String FRESH = "0 0 -1 0 0 0 0 0 0 0 0 0 0";
    private static final Check CHECK = new Check();

    public static void main(String[] args) {
        CHECK.sentence("VoiceGateway(): As said above", P01NewObjectTest::asSaidAbove);
        CHECK.sentence("... and the first packet with it", P01NewObjectTest::firstPacket);
        CHECK.sentence("... for each object", P01NewObjectTest::anotherOne);
        CHECK.end();
    }

    private static void asSaidAbove() {
        VoiceGateway g = new VoiceGateway();
        CHECK.due("figures", Calls.figures(g), FRESH);
        CHECK.due("line()", g.line(), 0);
        CHECK.due("output()", g.output(), 0);
        CHECK.due("byteAt(0, 0)", g.byteAt(0, 0), VoiceGateway.BAD);
        CHECK.due("sample(0)", g.sample(0), 40000);
        CHECK.due("input is empty", g.send(3, 1, false), VoiceGateway.EMPTY);
        CHECK.due("receive()", g.receive(), VoiceGateway.EMPTY);
        CHECK.due("play()", g.play(), VoiceGateway.EMPTY);
        CHECK.due("the refused calls changed nothing", Calls.figures(g), FRESH);
    }

    private static void firstPacket() {
        VoiceGateway g = new VoiceGateway();
        Calls.sendOne(g, 3, 258);
        CHECK.due("sequence, time and source are 0", Calls.bytes(g, 0), "128 11 0 0 0 0 0 0 0 0 0 0 1 2");
        g.receive();
        CHECK.due("the prefill is 1", g.play(), 1);
    }

    private static void anotherOne() {
        VoiceGateway g = new VoiceGateway();
        Calls.busy(g);
        VoiceGateway other = new VoiceGateway();
        CHECK.due("another one", Calls.figures(other), FRESH);
        CHECK.due("its line", other.line(), 0);
        CHECK.due("its output", other.output(), 0);
        CHECK.due("its input", other.send(3, 1, false), VoiceGateway.EMPTY);
        String before = Calls.figures(g) + Calls.lineOf(g) + Calls.outputOf(g);
        Calls.fullOutput(other);
        CHECK.due("the first is as it was", Calls.figures(g) + Calls.lineOf(g) + Calls.outputOf(g), before);
    }
}
