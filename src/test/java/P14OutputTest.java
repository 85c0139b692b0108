/** Promise 14: output. */
public final class P14OutputTest {
    public static void main(String[] args) {
        Check check = new Check();
        VoiceGateway g = new VoiceGateway();
        check.due("output()", g.output(), 0);
        Calls.bring(g, 0, 0, false, 1, 2, 3);
        check.due("a packet in the buffer is not put out", g.output(), 0);
        g.play();
        check.due("after a packet", g.output(), 3);
        g.play();
        check.due("after a loss", g.output(), 6);
        g.pass(2);
        check.due("after pass(2)", g.output(), 4);
        for (int i = 0; i < 4; i++) {
            g.play();
        }
        check.due("after three losses and coming to rest", g.output(), 13);
        g.play();
        check.due("after a refused play", g.output(), 13);
        g.feed(4);
        check.due("the input is another list", g.output(), 13);

        VoiceGateway full = new VoiceGateway();
        for (int i = 0; i < 16; i++) {
            Calls.bring(full, i, 0, false, new int[16]);
            full.play();
            check.due("after packet " + i, full.output(), 16 * (i + 1));
        }
        full.play();
        check.due("no more than 256", full.output(), 256);
        check.end();
    }
}
