import java.util.function.Consumer;

/** Promise 11: receive. */
public final class P11ReceiveTest {
    private static final Check CHECK = new Check();

    public static void main(String[] args) {
        CHECK.sentence("Takes the first packet from the line", P11ReceiveTest::takesTheFirst);
        CHECK.sentence("EMPTY, there is none", P11ReceiveTest::thereIsNone);
        CHECK.sentence("BAD, it does not have 1 .. 16 samples as said above", P11ReceiveTest::lengthsOfAllTypes);
        CHECK.sentence("... whatever its type and length", P11ReceiveTest::everyTypeAndLength);
        CHECK.sentence("BAD, byte 0 is not as it must be", P11ReceiveTest::byteZero);
        CHECK.sentence("BAD, its type is not as it must be", P11ReceiveTest::everyType);
        CHECK.sentence("BAD, its index is not as it must be", P11ReceiveTest::everyIndex);
        CHECK.sentence("BAD, the byte 0 behind that is not as it must be", P11ReceiveTest::byteBehindIndex);
        CHECK.sentence("... and all other bytes may be any", P11ReceiveTest::otherBytes);
        CHECK.sentence("OTHER (not at rest)", P11ReceiveTest::other);
        CHECK.sentence("LATE (not at rest)", P11ReceiveTest::late);
        CHECK.sentence("FAR (not at rest)", P11ReceiveTest::far);
        CHECK.sentence("TWICE (not at rest)", P11ReceiveTest::twice);
        CHECK.sentence("by the first of these that holds", P11ReceiveTest::firstThatHolds);
        CHECK.sentence("... BAD at rest too, and it stays at rest", P11ReceiveTest::badAtRest);
        CHECK.sentence("OTHER, LATE, FAR, TWICE: not at rest", P11ReceiveTest::noneOfTheseAtRest);
        CHECK.sentence("Otherwise it is put into the buffer, and the answer is its distance", P11ReceiveTest::distances);
        CHECK.sentence("... round the greatest sequence too", P11ReceiveTest::distancesRoundTheEnd);
        CHECK.sentence("(0 at rest)", P11ReceiveTest::zeroAtRest);
        CHECK.end();
    }

    private static int bringFrom(VoiceGateway g, int sequence, int source) {
        g.begin(sequence, 0, source);
        Calls.sendOne(g, 3, 5);
        return g.receive();
    }

    private static void distances() {
        VoiceGateway g = new VoiceGateway();
        CHECK.due("nothing is there", g.receive(), VoiceGateway.EMPTY);
        CHECK.due("at rest", bringFrom(g, 100, 9), 0);
        CHECK.due("it waits", g.figure(0), 1);
        CHECK.due("next", g.figure(2), 100);
        CHECK.due("distance 7", bringFrom(g, 107, 9), 7);
        CHECK.due("distance 8", bringFrom(g, 108, 9), VoiceGateway.FAR);
        CHECK.due("distance 32767", bringFrom(g, 32867, 9), VoiceGateway.FAR);
        CHECK.due("distance -32768", bringFrom(g, 32868, 9), VoiceGateway.LATE);
        CHECK.due("distance -1", bringFrom(g, 99, 9), VoiceGateway.LATE);
        CHECK.due("distance -100", bringFrom(g, 0, 9), VoiceGateway.LATE);
        CHECK.due("distance -101", bringFrom(g, 65535, 9), VoiceGateway.LATE);
        CHECK.due("twice 0", bringFrom(g, 100, 9), VoiceGateway.TWICE);
        CHECK.due("twice 7", bringFrom(g, 107, 9), VoiceGateway.TWICE);
        CHECK.due("distance 3", bringFrom(g, 103, 9), 3);
        CHECK.due("figures", Calls.figures(g), "1 3 100 0 4 2 2 0 0 0 0 0 104");
        g.play();
        CHECK.due("played before", bringFrom(g, 100, 9), VoiceGateway.LATE);
        CHECK.due("distance 7 now", bringFrom(g, 108, 9), 7);
        CHECK.due("distance 0", bringFrom(g, 101, 9), 0);
        CHECK.due("the line is empty", g.line(), 0);
    }

    private static void distancesRoundTheEnd() {
        VoiceGateway g = new VoiceGateway();
        CHECK.due("at rest", bringFrom(g, 65533, -1), 0);
        CHECK.due("65534", bringFrom(g, 65534, -1), 1);
        CHECK.due("0", bringFrom(g, 0, -1), 3);
        CHECK.due("4", bringFrom(g, 4, -1), 7);
        CHECK.due("5", bringFrom(g, 5, -1), VoiceGateway.FAR);
        CHECK.due("65532", bringFrom(g, 65532, -1), VoiceGateway.LATE);
        CHECK.due("32764", bringFrom(g, 32764, -1), VoiceGateway.FAR);
        CHECK.due("32765", bringFrom(g, 32765, -1), VoiceGateway.LATE);
        CHECK.due("0 again", bringFrom(g, 0, -1), VoiceGateway.TWICE);
    }

    private static void takesTheFirst() {
        VoiceGateway g = new VoiceGateway();
        Calls.sendRun(g, 20, 3);
        CHECK.due("the first", g.receive(), 0);
        CHECK.due("two are left", Calls.lineOf(g), "[128 11 0 21 0 0 0 1 0 0 0 1 0 101][128 11 0 22 0 0 0 2 0 0 0 1 0 102]");
        g.disturb(0, 1);
        CHECK.due("the first now", g.receive(), 2);
        CHECK.due("and the last one", g.receive(), 1);
        CHECK.due("none is left", g.line(), 0);
    }

    private static void thereIsNone() {
        Twins.due(CHECK, "receive() at first", VoiceGateway.EMPTY, g -> { }, VoiceGateway::receive);
        Twins.due(CHECK, "receive() when it waits", VoiceGateway.EMPTY,
                g -> Calls.bring(g, 5, 0, false, 1), VoiceGateway::receive);
        Twins.due(CHECK, "receive() when it plays", VoiceGateway.EMPTY, g -> {
            Calls.busy(g);
            Calls.loseLine(g);
        }, VoiceGateway::receive);
    }

    /** A past whose buffer has 10, 12 and 17 of source 256 and waits for its prefill, or plays from 10 on. */
    private static void waiting(VoiceGateway g) {
        g.prefill(4);
        bringFrom(g, 10, 256);
        bringFrom(g, 12, 256);
        bringFrom(g, 17, 256);
    }

    private static void playing(VoiceGateway g) {
        bringFrom(g, 9, 256);
        g.play();
        bringFrom(g, 10, 256);
        bringFrom(g, 12, 256);
        bringFrom(g, 17, 256);
    }

    private static void sendFrom(VoiceGateway g, int sequence, int source) {
        g.begin(sequence, 0, source);
        Calls.sendOne(g, 3, 5);
    }

    /** Refused by a buffer that waits and by one that plays; packets behind it on the line stay there. */
    private static void dueRefused(String why, int want, int counted, int sequence, int source) {
        String what = why + ": sequence " + sequence + ", source " + source;
        Twins.dueRefused(CHECK, what, want, counted, g -> {
            waiting(g);
            sendFrom(g, sequence, source);
            sendFrom(g, 11, 256);
        });
        Twins.dueRefused(CHECK, what, want, counted, g -> {
            playing(g);
            sendFrom(g, sequence, source);
        });
    }

    private static void other() {
        for (int source : new int[] {0, 1, 255, 257, 256 + (1 << 24), 256 + (1 << 16), -256, 256 ^ (1 << 31)}) {
            dueRefused("OTHER", VoiceGateway.OTHER, 7, 11, source);
        }
        CHECK.due("the same source", bringAfter(11, 256), 1);
    }

    private static void late() {
        for (int sequence : new int[] {9, 8, 2, 0, 65535, 32779, 32778}) {
            dueRefused("LATE", VoiceGateway.LATE, 4, sequence, 256);
        }
        CHECK.due("distance 1", bringAfter(11, 256), 1);
        VoiceGateway g = new VoiceGateway();
        waiting(g);
        g.prefill(1);
        g.play();
        CHECK.due("10 was played", bringFrom(g, 10, 256), VoiceGateway.LATE);
        CHECK.due("11 was not", bringFrom(g, 11, 256), 0);
        g.play();
        g.play();
        g.play();
        CHECK.due("13 was lost", bringFrom(g, 13, 256), VoiceGateway.LATE);
        CHECK.due("14 was not", bringFrom(g, 14, 256), 0);
    }

    private static void far() {
        for (int sequence : new int[] {18, 19, 26, 32776, 32777}) {
            dueRefused("FAR", VoiceGateway.FAR, 5, sequence, 256);
        }
        VoiceGateway g = new VoiceGateway();
        bringFrom(g, 10, 256);
        CHECK.due("distance 8", bringFrom(g, 18, 256), VoiceGateway.FAR);
        CHECK.due("distance 7", bringFrom(g, 17, 256), 7);
        g.play();
        CHECK.due("distance 7 now", bringFrom(g, 18, 256), 7);
        CHECK.due("distance 8 now", bringFrom(g, 19, 256), VoiceGateway.FAR);
    }

    private static void twice() {
        for (int sequence : new int[] {10, 12, 17}) {
            dueRefused("TWICE", VoiceGateway.TWICE, 6, sequence, 256);
        }
        CHECK.due("13 is not there", bringAfter(13, 256), 3);
        VoiceGateway g = new VoiceGateway();
        bringFrom(g, 10, 256);
        g.begin(10, 7, 256);
        Calls.sendOne(g, 0, 900, 900);
        CHECK.due("also with other samples", g.receive(), VoiceGateway.TWICE);
        CHECK.due("the first one", g.play(), 1);
        CHECK.due("is played", g.sample(0), 5);
    }

    private static int bringAfter(int sequence, int source) {
        VoiceGateway g = new VoiceGateway();
        waiting(g);
        return bringFrom(g, sequence, source);
    }

    /** 9 and 18 are LATE and FAR, 12 is TWICE and 11 is none of these. */
    private static void firstThatHolds() {
        for (int sequence : new int[] {9, 18, 12, 11}) {
            dueRefused("OTHER before the rest", VoiceGateway.OTHER, 7, sequence, 255);
            for (int source : new int[] {255, 256}) {
                dueBad("byte 0", sequence, source, g -> g.poke(0, 0, 127));
                dueBad("type", sequence, source, g -> g.poke(0, 1, 12));
                dueBad("length", sequence, source, g -> g.disturb(0, 3));
                dueBad("no byte", sequence, source, g -> {
                    for (int i = 0; i < 14; i++) {
                        g.disturb(0, 3);
                    }
                });
                dueBad("index", sequence, source, g -> {
                    adaptiveInstead(g);
                    g.poke(0, 14, 89);
                });
                dueBad("byte behind the index", sequence, source, g -> {
                    adaptiveInstead(g);
                    g.poke(0, 15, 1);
                });
            }
        }
    }

    private static void adaptiveInstead(VoiceGateway g) {
        int sequence = 256 * g.byteAt(0, 2) + g.byteAt(0, 3);
        int source = 256 * g.byteAt(0, 10) + g.byteAt(0, 11);
        g.disturb(0, 0);
        g.begin(sequence, 0, source);
        Calls.sendOne(g, 2, 1, 1);
    }

    private static void dueBad(String why, int sequence, int source, Consumer<VoiceGateway> damage) {
        String what = "BAD before the rest, " + why + ": sequence " + sequence + ", source " + source;
        Twins.dueRefused(CHECK, what, VoiceGateway.BAD, 3, g -> {
            playing(g);
            sendFrom(g, sequence, source);
            damage.accept(g);
        });
    }

    private static void badAtRest() {
        Twins.dueRefused(CHECK, "BAD at first", VoiceGateway.BAD, 3, g -> {
            sendFrom(g, 10, 5);
            g.poke(0, 0, 0);
        });
        Twins.dueRefused(CHECK, "BAD at rest again", VoiceGateway.BAD, 3, g -> {
            restAgain(g);
            sendFrom(g, 10, 5);
            g.disturb(0, 3);
        });
        VoiceGateway g = new VoiceGateway();
        sendFrom(g, 10, 5);
        g.poke(0, 0, 0);
        g.receive();
        CHECK.due("it stays at rest", g.figure(0), 0);
        CHECK.due("without a next sequence", g.figure(2), -1);
        CHECK.due("nor a source", bringFrom(g, 3, 6), 0);
    }

    /** The next sequence was 16 at last, the source 256; 17 was in the buffer. */
    private static void restAgain(VoiceGateway g) {
        bringFrom(g, 11, 256);
        bringFrom(g, 17, 256);
        Calls.playTimes(g, 6);
        CHECK.due("at rest", g.figure(0), 0);
    }

    private static void noneOfTheseAtRest() {
        int[][] packets = {{16, 5}, {15, 256}, {11, 256}, {24, 256}, {40000, 256}, {17, 256}, {0, 0}, {65535, -1}};
        for (int[] p : packets) {
            VoiceGateway g = new VoiceGateway();
            restAgain(g);
            CHECK.due("sequence " + p[0] + ", source " + p[1], bringFrom(g, p[0], p[1]), 0);
            CHECK.due("next", g.figure(2), p[0]);
            CHECK.due("none was refused", g.figure(3) + g.figure(4) + g.figure(5) + g.figure(6) + g.figure(7), 0);
            CHECK.due("one is there", g.figure(1), 1);
            CHECK.due("and is played", g.play(), 1);
        }
    }

    private static void zeroAtRest() {
        for (int sequence : new int[] {0, 1, 7, 8, 255, 32767, 32768, 65535}) {
            VoiceGateway g = new VoiceGateway();
            CHECK.due("sequence " + sequence, bringFrom(g, sequence, 9), 0);
            CHECK.due("it waits", g.figure(0), 1);
            CHECK.due("next", g.figure(2), sequence);
            CHECK.due("with one packet", g.figure(1), 1);
        }
    }

    private static VoiceGateway withPacket(int coding, int n) {
        VoiceGateway g = new VoiceGateway();
        Calls.sendOne(g, coding, new int[n]);
        return g;
    }

    private static void duePoked(int coding, int i, int b, int want) {
        VoiceGateway g = withPacket(coding, 4);
        g.poke(0, i, b);
        CHECK.due("coding " + coding + ", byte " + i + " = " + b, g.receive(), want);
        CHECK.due("counted", g.figure(3), want == VoiceGateway.BAD ? 1 : 0);
        CHECK.due("taken from the line", g.line(), 0);
    }

    private static void byteZero() {
        for (int coding = 0; coding < 4; coding++) {
            for (int b = 0; b < 256; b++) {
                duePoked(coding, 0, b, b == 128 ? 0 : VoiceGateway.BAD);
            }
        }
    }

    /** Four samples of a type, read as another one: 16, 16, 18 and 20 bytes. */
    private static void everyType() {
        for (int b = 0; b < 256; b++) {
            int type = b % 128;
            boolean known = type == 8 || type == 0 || type == 5 || type == 11;
            duePoked(2, 1, b, known ? 0 : VoiceGateway.BAD);
            duePoked(3, 1, b, known ? 0 : VoiceGateway.BAD);
            // 16 bytes are no sample of coding 2.
            duePoked(0, 1, b, known && type != 5 ? 0 : VoiceGateway.BAD);
        }
    }

    private static void byteBehindIndex() {
        for (int b = 0; b < 256; b++) {
            duePoked(2, 15, b, b == 0 ? 0 : VoiceGateway.BAD);
        }
    }

    private static void otherBytes() {
        for (int b = 0; b < 256; b++) {
            for (int i = 2; i < 14; i++) {
                duePoked(2, i, b, 0);
            }
            duePoked(2, 16, b, 0);
            duePoked(3, 14, b, 0);
            duePoked(3, 15, b, 0);
            duePoked(0, 14, b, 0);
            duePoked(0, 15, b, 0);
            duePoked(1, 14, b, 0);
            duePoked(1, 15, b, 0);
        }
    }

    private static void lengthsOfAllTypes() {
        for (int coding = 0; coding < 4; coding++) {
            VoiceGateway g = withPacket(coding, 16);
            CHECK.due("16 samples of coding " + coding, g.receive(), 0);
            int least = coding == 2 ? 2 : 1;
            CHECK.due("the least of coding " + coding, withPacket(coding, least).receive(), 0);
            VoiceGateway cut = withPacket(coding, least);
            cut.disturb(0, 3);
            CHECK.due("less of coding " + coding, cut.receive(), VoiceGateway.BAD);
        }
        VoiceGateway none = withPacket(0, 1);
        for (int i = 0; i < 13; i++) {
            none.disturb(0, 3);
        }
        CHECK.due("no byte at all", none.receive(), VoiceGateway.BAD);
        VoiceGateway cut = withPacket(2, 4);
        cut.disturb(0, 3);
        CHECK.due("a byte of coding 2 less", cut.receive(), 0);
        CHECK.due("is two samples less", cut.play(), 2);
    }

    /** A packet of 44 bytes, of any type, cut to any length. */
    private static void everyTypeAndLength() {
        for (int type = 0; type < 256; type++) {
            for (int length = 44; length >= 2; length--) {
                VoiceGateway g = withPacket(3, 16);
                g.poke(0, 1, type);
                for (int i = 44; i > length; i--) {
                    g.disturb(0, 3);
                }
                int n = samples(type % 128, length);
                boolean good = n >= 1 && n <= 16;
                CHECK.due("type " + type + ", length " + length, g.receive(), good ? 0 : VoiceGateway.BAD);
                CHECK.due("samples", g.play(), good ? n : VoiceGateway.EMPTY);
            }
        }
    }

    private static int samples(int type, int length) {
        if (type == 8 || type == 0) {
            return length - 12;
        }
        if (type == 5) {
            return 2 * (length - 16);
        }
        return type == 11 && length % 2 == 0 ? (length - 12) / 2 : 0;
    }

    private static void everyIndex() {
        for (int b = 0; b < 256; b++) {
            duePoked(2, 14, b, b <= 88 ? 0 : VoiceGateway.BAD);
        }
    }
}
