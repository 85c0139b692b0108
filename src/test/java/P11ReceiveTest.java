/** Promise 11: receive. */
public final class P11ReceiveTest {
    private static final Check CHECK = new Check();

    public static void main(String[] args) {
        distances();
        distancesRoundTheEnd();
        refusalsInTheirOrder();
        nothingButBadAtRest();
        theBytesThatMustBe();
        lengthsOfAllTypes();
        everyTypeAndLength();
        everyIndex();
        CHECK.end();
    }

    private static int bringFrom(VoiceGateway g, int sequence, int source) {
        g.begin(sequence, 0, source);
        Calls.sendOne(g, 3, 5);
        return g.receive();
    }

    private static void distances() {
        VoiceGateway g = new VoiceGateway();
        CHECK.due("nothing is there", g.receive(), VoiceGateway.EMPTY);
        CHECK.due("at rest", bringFrom(g, 100, 9), 0);
        CHECK.due("it waits", g.figure(0), 1);
        CHECK.due("next", g.figure(2), 100);
        CHECK.due("distance 7", bringFrom(g, 107, 9), 7);
        CHECK.due("distance 8", bringFrom(g, 108, 9), VoiceGateway.FAR);
        CHECK.due("distance 32767", bringFrom(g, 32867, 9), VoiceGateway.FAR);
        CHECK.due("distance -32768", bringFrom(g, 32868, 9), VoiceGateway.LATE);
        CHECK.due("distance -1", bringFrom(g, 99, 9), VoiceGateway.LATE);
        CHECK.due("distance -100", bringFrom(g, 0, 9), VoiceGateway.LATE);
        CHECK.due("distance -101", bringFrom(g, 65535, 9), VoiceGateway.LATE);
        CHECK.due("twice 0", bringFrom(g, 100, 9), VoiceGateway.TWICE);
        CHECK.due("twice 7", bringFrom(g, 107, 9), VoiceGateway.TWICE);
        CHECK.due("distance 3", bringFrom(g, 103, 9), 3);
        CHECK.due("figures", Calls.figures(g), "1 3 100 0 4 2 2 0 0 0 0 0 104");
        g.play();
        CHECK.due("played before", bringFrom(g, 100, 9), VoiceGateway.LATE);
        CHECK.due("distance 7 now", bringFrom(g, 108, 9), 7);
        CHECK.due("distance 0", bringFrom(g, 101, 9), 0);
        CHECK.due("the line is empty", g.line(), 0);
    }

    private static void distancesRoundTheEnd() {
        VoiceGateway g = new VoiceGateway();
        CHECK.due("at rest", bringFrom(g, 65533, -1), 0);
        CHECK.due("65534", bringFrom(g, 65534, -1), 1);
        CHECK.due("0", bringFrom(g, 0, -1), 3);
        CHECK.due("4", bringFrom(g, 4, -1), 7);
        CHECK.due("5", bringFrom(g, 5, -1), VoiceGateway.FAR);
        CHECK.due("65532", bringFrom(g, 65532, -1), VoiceGateway.LATE);
        CHECK.due("32764", bringFrom(g, 32764, -1), VoiceGateway.FAR);
        CHECK.due("32765", bringFrom(g, 32765, -1), VoiceGateway.LATE);
        CHECK.due("0 again", bringFrom(g, 0, -1), VoiceGateway.TWICE);
    }

    private static void refusalsInTheirOrder() {
        VoiceGateway g = new VoiceGateway();
        bringFrom(g, 10, 256);
        for (int sequence : new int[] {9, 10, 11, 18}) {
            g.begin(sequence, 0, 1);
            Calls.sendOne(g, 3, 5);
            g.poke(0, 0, 127);
            CHECK.due("BAD before OTHER", g.receive(), VoiceGateway.BAD);
            CHECK.due("OTHER before the rest", bringFrom(g, sequence, 1), VoiceGateway.OTHER);
        }
        for (int source : new int[] {0, 257, 256 + (1 << 24), 256 + (1 << 16), -256}) {
            CHECK.due("source " + source, bringFrom(g, 12, source), VoiceGateway.OTHER);
        }
        CHECK.due("figures", Calls.figures(g), "1 1 10 4 0 0 0 9 0 0 0 0 13");
    }

    private static void nothingButBadAtRest() {
        VoiceGateway g = new VoiceGateway();
        g.begin(10, 0, 5);
        Calls.sendOne(g, 3, 5);
        g.poke(0, 0, 0);
        CHECK.due("BAD at rest", g.receive(), VoiceGateway.BAD);
        CHECK.due("it stays at rest", g.figure(0), 0);
        CHECK.due("and is counted", g.figure(3), 1);
        bringFrom(g, 10, 5);
        for (int i = 0; i < 6; i++) {
            g.play();
        }
        CHECK.due("at rest again", g.figure(0), 0);
        CHECK.due("another source, an earlier sequence", bringFrom(g, 3, 6), 0);
        CHECK.due("the source from before", bringFrom(g, 4, 5), VoiceGateway.OTHER);
        CHECK.due("figures", Calls.figures(g), "1 1 3 1 0 0 0 1 5 0 0 0 5");
    }

    private static VoiceGateway withPacket(int coding, int n) {
        VoiceGateway g = new VoiceGateway();
        Calls.sendOne(g, coding, new int[n]);
        return g;
    }

    private static void duePoked(int coding, int i, int b, int want) {
        VoiceGateway g = withPacket(coding, 4);
        g.poke(0, i, b);
        CHECK.due("coding " + coding + ", byte " + i + " = " + b, g.receive(), want);
        CHECK.due("counted", g.figure(3), want == VoiceGateway.BAD ? 1 : 0);
        CHECK.due("taken from the line", g.line(), 0);
    }

    private static void theBytesThatMustBe() {
        for (int coding = 0; coding < 4; coding++) {
            for (int b = 0; b < 256; b++) {
                duePoked(coding, 0, b, b == 128 ? 0 : VoiceGateway.BAD);
            }
        }
        for (int b = 0; b < 256; b++) {
            duePoked(2, 15, b, b == 0 ? 0 : VoiceGateway.BAD);
            duePoked(2, 12, b, 0);
            duePoked(2, 13, b, 0);
            duePoked(3, 14, b, 0);
            duePoked(3, 15, b, 0);
        }
    }

    private static void lengthsOfAllTypes() {
        for (int coding = 0; coding < 4; coding++) {
            VoiceGateway g = withPacket(coding, 16);
            CHECK.due("16 samples of coding " + coding, g.receive(), 0);
            int least = coding == 2 ? 2 : 1;
            CHECK.due("the least of coding " + coding, withPacket(coding, least).receive(), 0);
            VoiceGateway cut = withPacket(coding, least);
            cut.disturb(0, 3);
            CHECK.due("less of coding " + coding, cut.receive(), VoiceGateway.BAD);
        }
        VoiceGateway none = withPacket(0, 1);
        for (int i = 0; i < 13; i++) {
            none.disturb(0, 3);
        }
        CHECK.due("no byte at all", none.receive(), VoiceGateway.BAD);
        VoiceGateway cut = withPacket(2, 4);
        cut.disturb(0, 3);
        CHECK.due("a byte of coding 2 less", cut.receive(), 0);
        CHECK.due("is two samples less", cut.play(), 2);
    }

    /** A packet of 44 bytes, of any type, cut to any length. */
    private static void everyTypeAndLength() {
        for (int type = 0; type < 256; type++) {
            for (int length = 44; length >= 2; length--) {
                VoiceGateway g = withPacket(3, 16);
                g.poke(0, 1, type);
                for (int i = 44; i > length; i--) {
                    g.disturb(0, 3);
                }
                int n = samples(type % 128, length);
                boolean good = n >= 1 && n <= 16;
                CHECK.due("type " + type + ", length " + length, g.receive(), good ? 0 : VoiceGateway.BAD);
                CHECK.due("samples", g.play(), good ? n : VoiceGateway.EMPTY);
            }
        }
    }

    private static int samples(int type, int length) {
        if (type == 8 || type == 0) {
            return length - 12;
        }
        if (type == 5) {
            return 2 * (length - 16);
        }
        return type == 11 && length % 2 == 0 ? (length - 12) / 2 : 0;
    }

    private static void everyIndex() {
        for (int b = 0; b < 256; b++) {
            duePoked(2, 14, b, b <= 88 ? 0 : VoiceGateway.BAD);
        }
    }
}
