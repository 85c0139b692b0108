/** Promise 5: begin. */
public final class P05BeginTest {
    private static final Check CHECK = new Check();

    public static void main(String[] args) {
        CHECK.sentence("Sets the next sequence and time, and the source: true", P05BeginTest::sets);
        CHECK.sentence("... for all of 0 .. 65535 and all ints", P05BeginTest::edges);
        CHECK.sentence("... and nothing else", P05BeginTest::nothingElse);
        CHECK.sentence("false, changing nothing, when sequence is not 0 .. 65535", P05BeginTest::noSequence);
        CHECK.end();
    }

    private static void sets() {
        VoiceGateway g = new VoiceGateway();
        CHECK.due("begin(258, ..)", g.begin(258, 0x01020304, 0xfffefdfc), true);
        CHECK.due("next sequence", g.figure(12), 258);
        Calls.sendOne(g, 3, -2);
        CHECK.due("packet", Calls.bytes(g, 0), "128 11 1 2 1 2 3 4 255 254 253 252 255 254");
    }

    private static void edges() {
        VoiceGateway g = new VoiceGateway();
        CHECK.due("begin(0, ..)", g.begin(0, Integer.MIN_VALUE, Integer.MAX_VALUE), true);
        CHECK.due("next sequence", g.figure(12), 0);
        Calls.sendOne(g, 3, 1);
        CHECK.due("packet", Calls.bytes(g, 0), "128 11 0 0 128 0 0 0 127 255 255 255 0 1");
        CHECK.due("begin(65535, ..)", g.begin(65535, -1, -1), true);
        CHECK.due("next sequence", g.figure(12), 65535);
        Calls.sendOne(g, 3, 1);
        CHECK.due("packet", Calls.bytes(g, 1), "128 11 255 255 255 255 255 255 255 255 255 255 0 1");
        CHECK.due("begin(32768, ..)", g.begin(32768, Integer.MAX_VALUE, Integer.MIN_VALUE), true);
        Calls.sendOne(g, 3, 1);
        CHECK.due("packet", Calls.bytes(g, 2), "128 11 128 0 127 255 255 255 128 0 0 0 0 1");
    }

    private static void nothingElse() {
        VoiceGateway g = new VoiceGateway();
        Calls.sendOne(g, 2, 1000, 1000);
        Calls.bring(g, 7, 70, false, 5);
        g.feed(4);
        String before = Calls.figures(g).replaceAll(" [0-9]+$", "");
        CHECK.due("begin(9, 9, 9)", g.begin(9, 9, 9), true);
        CHECK.due("figures", Calls.figures(g), before + " 9");
        CHECK.due("the input", g.send(3, 1, false), 14);
    }

    private static void noSequence() {
        for (int sequence : new int[] {-1, 65536, -65536, 131071, Integer.MIN_VALUE, Integer.MAX_VALUE}) {
            Twins.dueFalse(CHECK, "begin(" + sequence + ", 5, 6)", Calls::busy, g -> g.begin(sequence, 5, 6));
            Twins.dueFalse(CHECK, "begin(" + sequence + ", -5, -6) at first", g -> { }, g -> g.begin(sequence, -5, -6));
        }
    }
}
