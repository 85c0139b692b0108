/** Promise 9: poke. */
public final class P09PokeTest {
    private static final Check CHECK = new Check();

    public static void main(String[] args) {
        CHECK.sentence("Changes that byte: true", P09PokeTest::changes);
        CHECK.sentence("... of that packet alone", P09PokeTest::oneOfTwo);
        CHECK.sentence("false, changing nothing, when there is none: no such packet", P09PokeTest::noPacket);
        CHECK.sentence("false, changing nothing, when there is none: no such byte", P09PokeTest::noByte);
        CHECK.sentence("false, changing nothing, when b is not 0 .. 255", P09PokeTest::noByteValue);
        CHECK.end();
    }

    private static void changes() {
        VoiceGateway g = new VoiceGateway();
        Calls.sendOne(g, 3, 1);
        Calls.sendOne(g, 3, 2);
        CHECK.due("poke(0, 0, 255)", g.poke(0, 0, 255), true);
        CHECK.due("poke(1, 13, 0)", g.poke(1, 13, 0), true);
        CHECK.due("poke(1, 12, 200)", g.poke(1, 12, 200), true);
        CHECK.due("first", Calls.bytes(g, 0), "255 11 0 0 0 0 0 0 0 0 0 0 0 1");
        CHECK.due("second", Calls.bytes(g, 1), "128 11 0 1 0 0 0 1 0 0 0 0 200 0");
        CHECK.due("the poked packet is refused", g.receive(), VoiceGateway.BAD);
        CHECK.due("the other is not", g.receive(), 0);
        CHECK.due("and is played", g.play(), 1);
        CHECK.due("as it was poked", g.sample(0), -14336);
        VoiceGateway full = new VoiceGateway();
        Calls.sendRun(full, 0, 7);
        Calls.sendOne(full, 3, new int[16]);
        CHECK.due("the last byte of the last packet", full.poke(7, 43, 9), true);
        CHECK.due("is changed", full.byteAt(7, 43), 9);
    }

    private static void oneOfTwo() {
        VoiceGateway g = new VoiceGateway();
        Calls.sendOne(g, 3, 1);
        g.disturb(0, 2);
        CHECK.due("poke(0, 13, 9)", g.poke(0, 13, 9), true);
        CHECK.due("the poked one", g.byteAt(0, 13), 9);
        CHECK.due("its double", g.byteAt(1, 13), 1);
        g.receive();
        CHECK.due("poke(0, 13, 5)", g.poke(0, 13, 5), true);
        g.play();
        CHECK.due("what was received is as it was", g.sample(0), 9);
    }

    private static void dueFalse(int k, int i, int b) {
        Twins.dueFalse(CHECK, "poke(" + k + ", " + i + ", " + b + ")", Calls::busy, g -> g.poke(k, i, b));
    }

    private static void noPacket() {
        Twins.dueFalse(CHECK, "poke(0, 0, 0) on an empty line", g -> { }, g -> g.poke(0, 0, 0));
        for (int k : new int[] {-1, 2, 3, 7, 8, Integer.MIN_VALUE, Integer.MAX_VALUE}) {
            dueFalse(k, 0, 1);
            dueFalse(k, 12, 1);
        }
        dueFalse(2, 13, 256);
        dueFalse(-1, -1, -1);
    }

    /** The busy line has packets of 17 and of 13 bytes. */
    private static void noByte() {
        for (int i : new int[] {-1, 17, 18, 43, 44, Integer.MIN_VALUE, Integer.MAX_VALUE}) {
            dueFalse(0, i, 1);
        }
        for (int i : new int[] {-1, 13, 14, 16, 43, 44, Integer.MIN_VALUE, Integer.MAX_VALUE}) {
            dueFalse(1, i, 1);
            dueFalse(1, i, 256);
        }
        VoiceGateway g = new VoiceGateway();
        Calls.busy(g);
        CHECK.due("the last of 17", g.poke(0, 16, 1), true);
        CHECK.due("the last of 13", g.poke(1, 12, 1), true);
        g.disturb(1, 3);
        CHECK.due("a byte that was cut off", g.poke(1, 12, 1), false);
        CHECK.due("it does not come back", g.byteAt(1, 12), VoiceGateway.BAD);
        VoiceGateway none = new VoiceGateway();
        Calls.sendOne(none, 0, 1);
        for (int i = 0; i < 13; i++) {
            none.disturb(0, 3);
        }
        CHECK.due("a packet without bytes", none.poke(0, 0, 128), false);
    }

    private static void noByteValue() {
        for (int b : new int[] {-1, 256, 257, -128, -256, Integer.MIN_VALUE, Integer.MAX_VALUE}) {
            dueFalse(0, 0, b);
            dueFalse(1, 12, b);
        }
        VoiceGateway g = new VoiceGateway();
        Calls.busy(g);
        CHECK.due("the least", g.poke(0, 0, 0), true);
        CHECK.due("is there", g.byteAt(0, 0), 0);
        CHECK.due("the greatest", g.poke(0, 0, 255), true);
        CHECK.due("is there", g.byteAt(0, 0), 255);
    }
}
