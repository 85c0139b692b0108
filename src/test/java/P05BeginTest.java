/** Promise 5: begin. */
public final class P05BeginTest {
    public static void main(String[] args) {
        Check check = new Check();
        VoiceGateway g = new VoiceGateway();
        check.due("begin(258, ..)", g.begin(258, 0x01020304, 0xfffefdfc), true);
        check.due("next sequence", g.figure(12), 258);
        for (int sequence : new int[] {-1, 65536, Integer.MIN_VALUE, Integer.MAX_VALUE}) {
            check.due("begin(" + sequence + ", 5, 6)", g.begin(sequence, 5, 6), false);
        }
        check.due("next sequence is the same", g.figure(12), 258);
        Calls.sendOne(g, 3, -2);
        check.due("packet", Calls.bytes(g, 0), "128 11 1 2 1 2 3 4 255 254 253 252 255 254");

        check.due("begin(0, ..)", g.begin(0, Integer.MIN_VALUE, Integer.MAX_VALUE), true);
        Calls.sendOne(g, 3, 1);
        check.due("packet", Calls.bytes(g, 1), "128 11 0 0 128 0 0 0 127 255 255 255 0 1");
        check.due("begin(65535, ..)", g.begin(65535, -1, -1), true);
        check.due("next sequence", g.figure(12), 65535);

        VoiceGateway carries = new VoiceGateway();
        Calls.sendOne(carries, 2, 1000, 1000);
        String before = carries.figure(10) + " " + carries.figure(11);
        carries.begin(9, 9, 9);
        check.due("coding 2 goes on", carries.figure(10) + " " + carries.figure(11), before);
        check.end();
    }
}
