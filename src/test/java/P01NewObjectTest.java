/** Promise 1: a new object is empty and at rest, and shares nothing with another one. */
public final class P01NewObjectTest {
    public static void main(String[] args) {
        Check check = new Check();
        String fresh = "figures 0 0 -1 0 0 0 0 0 0 0 0 0 0; line 0; output 0 []";
        VoiceGateway g = new VoiceGateway();
        check.due("state", Calls.state(g), fresh);
        check.due("input is empty", g.send(3, 1, false), VoiceGateway.EMPTY);
        check.due("receive()", g.receive(), VoiceGateway.EMPTY);
        check.due("play()", g.play(), VoiceGateway.EMPTY);
        check.due("the refused calls changed nothing", Calls.state(g), fresh);

        Calls.sendOne(g, 3, 258);
        check.due("sequence, time and source are 0", Calls.bytes(g, 0), "128 11 0 0 0 0 0 0 0 0 0 0 1 2");
        g.receive();
        check.due("the prefill is 1", g.play(), 1);

        VoiceGateway other = new VoiceGateway();
        check.due("another one", Calls.state(other), fresh);
        check.due("another one's input", other.send(3, 1, false), VoiceGateway.EMPTY);
        check.end();
    }
}
