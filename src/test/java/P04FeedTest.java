/** Promise 4: feed. */
public final class P04FeedTest {
    public static void main(String[] args) {
        Check check = new Check();
        VoiceGateway g = new VoiceGateway();
        check.due("feed(32767)", g.feed(32767), true);
        check.due("feed(-32768)", g.feed(-32768), true);
        check.due("feed(0)", g.feed(0), true);
        for (int x : new int[] {32768, -32769, Integer.MAX_VALUE, Integer.MIN_VALUE}) {
            check.due("feed(" + x + ")", g.feed(x), false);
        }
        check.due("a refused sample is not there", g.send(3, 4, false), VoiceGateway.EMPTY);
        check.due("the others are", g.send(3, 3, false), 18);
        check.due("in their order", Calls.bytes(g, 0).substring(27), "127 255 128 0 0 0");

        VoiceGateway full = new VoiceGateway();
        for (int i = 0; i < 64; i++) {
            check.due("feed " + i, full.feed(i), true);
        }
        check.due("the 65th", full.feed(64), false);
        for (int k = 0; k < 4; k++) {
            check.due("send " + k, full.send(3, 16, false), 44);
            check.due("its first sample", full.byteAt(k, 13), 16 * k);
            check.due("its last sample", full.byteAt(k, 43), 16 * k + 15);
        }
        check.due("nothing is left", full.send(3, 1, false), VoiceGateway.EMPTY);
        check.due("there is room again", full.feed(7), true);
        check.due("and it is used", full.send(3, 1, false), 14);
        check.due("by that sample", full.byteAt(4, 13), 7);
        check.end();
    }
}
