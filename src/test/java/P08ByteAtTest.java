/** Promise 8: byteAt. */
public final class P08ByteAtTest {
    private static final Check CHECK = new Check();

    public static void main(String[] args) {
        CHECK.sentence("Byte i of the k-th packet on the line (both from 0)", P08ByteAtTest::bytes);
        CHECK.sentence("BAD when there is none: no such packet", P08ByteAtTest::noPacket);
        CHECK.sentence("BAD when there is none: no such byte", P08ByteAtTest::noByte);
        CHECK.sentence("... also of what is not there any more", P08ByteAtTest::notAnyMore);
        CHECK.sentence("... and nothing is changed by asking", P08ByteAtTest::changesNothing);
        CHECK.end();
    }

    private static void twoPackets(VoiceGateway g) {
        g.begin(1, 2, 3);
        Calls.sendOne(g, 3, 1, 2);
        Calls.sendOne(g, 0, 0);
    }

    private static void bytes() {
        VoiceGateway g = new VoiceGateway();
        twoPackets(g);
        CHECK.due("first", Calls.bytes(g, 0), "128 11 0 1 0 0 0 2 0 0 0 3 0 1 0 2");
        CHECK.due("second", Calls.bytes(g, 1), "128 8 0 2 0 0 0 4 0 0 0 3 213");
        VoiceGateway full = new VoiceGateway();
        Calls.sendRun(full, 0, 7);
        Calls.sendOne(full, 3, new int[] {0, 0, 0, 0, 0, 0, 0, 0, 0, 0, 0, 0, 0, 0, 0, 258});
        CHECK.due("byteAt(7, 0)", full.byteAt(7, 0), 128);
        CHECK.due("byteAt(7, 42)", full.byteAt(7, 42), 1);
        CHECK.due("byteAt(7, 43)", full.byteAt(7, 43), 2);
        CHECK.due("byteAt(7, 44)", full.byteAt(7, 44), VoiceGateway.BAD);
        CHECK.due("byteAt(8, 0)", full.byteAt(8, 0), VoiceGateway.BAD);
    }

    private static void noPacket() {
        CHECK.due("on an empty line", new VoiceGateway().byteAt(0, 0), VoiceGateway.BAD);
        VoiceGateway g = new VoiceGateway();
        twoPackets(g);
        for (int k : new int[] {-1, 2, 3, 7, 8, Integer.MIN_VALUE, Integer.MAX_VALUE}) {
            for (int i : new int[] {0, 12, -1, 44}) {
                CHECK.due("byteAt(" + k + ", " + i + ")", g.byteAt(k, i), VoiceGateway.BAD);
            }
        }
    }

    private static void noByte() {
        VoiceGateway g = new VoiceGateway();
        twoPackets(g);
        int[] lengths = {16, 13};
        for (int k = 0; k < 2; k++) {
            CHECK.due("the last byte", g.byteAt(k, lengths[k] - 1) != VoiceGateway.BAD, true);
            for (int i : new int[] {-1, lengths[k], lengths[k] + 1, 43, 44, Integer.MIN_VALUE, Integer.MAX_VALUE}) {
                CHECK.due("byteAt(" + k + ", " + i + ")", g.byteAt(k, i), VoiceGateway.BAD);
            }
        }
    }

    private static void notAnyMore() {
        VoiceGateway g = new VoiceGateway();
        twoPackets(g);
        g.disturb(0, 3);
        CHECK.due("a byte that was cut off", g.byteAt(0, 15), VoiceGateway.BAD);
        CHECK.due("the one before", g.byteAt(0, 14), 0);
        g.receive();
        CHECK.due("the second is the first now", g.byteAt(0, 12), 213);
        CHECK.due("and there is no second", g.byteAt(1, 0), VoiceGateway.BAD);
        for (int i = 0; i < 13; i++) {
            g.disturb(0, 3);
        }
        CHECK.due("a packet without bytes", g.byteAt(0, 0), VoiceGateway.BAD);
        g.receive();
        CHECK.due("the line is empty", g.byteAt(0, 0), VoiceGateway.BAD);
        Calls.sendOne(g, 0, 0);
        CHECK.due("nothing of a longer packet is left", g.byteAt(0, 13), VoiceGateway.BAD);
    }

    private static void changesNothing() {
        Twins.due(CHECK, "byteAt(1, 0)", 128, Calls::busy, g -> g.byteAt(1, 0));
        Twins.due(CHECK, "byteAt(2, 0)", VoiceGateway.BAD, Calls::busy, g -> g.byteAt(2, 0));
        Twins.due(CHECK, "byteAt(1, 13)", VoiceGateway.BAD, Calls::busy, g -> g.byteAt(1, 13));
        Twins.due(CHECK, "byteAt(0, -1)", VoiceGateway.BAD, Calls::busy, g -> g.byteAt(0, -1));
    }
}
