/** Promise 8: byteAt. */
public final class P08ByteAtTest {
    public static void main(String[] args) {
        Check check = new Check();
        VoiceGateway g = new VoiceGateway();
        check.due("byteAt(0, 0) on an empty line", g.byteAt(0, 0), VoiceGateway.BAD);
        g.begin(1, 2, 3);
        Calls.sendOne(g, 3, 1, 2);
        Calls.sendOne(g, 0, 0);
        check.due("first", Calls.bytes(g, 0), "128 11 0 1 0 0 0 2 0 0 0 3 0 1 0 2");
        check.due("second", Calls.bytes(g, 1), "128 8 0 2 0 0 0 4 0 0 0 3 213");
        int[][] none = {{0, -1}, {0, 16}, {1, 13}, {1, 14}, {-1, 0}, {2, 0}, {7, 0}, {8, 0}, {0, 44},
            {Integer.MAX_VALUE, 0}, {Integer.MIN_VALUE, 0}, {0, Integer.MAX_VALUE}, {0, Integer.MIN_VALUE}};
        for (int[] n : none) {
            check.due("byteAt(" + n[0] + ", " + n[1] + ")", g.byteAt(n[0], n[1]), VoiceGateway.BAD);
        }
        g.disturb(0, 3);
        check.due("a byte that was cut off", g.byteAt(0, 15), VoiceGateway.BAD);
        g.receive();
        check.due("the second is the first now", g.byteAt(0, 12), 213);
        check.due("and there is no second", g.byteAt(1, 0), VoiceGateway.BAD);
        check.end();
    }
}
