/** Promise 2: compress, for every sample of both codings. */
public final class P02CompressTest {
    private static final Check CHECK = new Check();
    private static VoiceGateway g = new VoiceGateway();

    public static void main(String[] args) {
        ordinary();
        beginnings();
        everySample();
        CHECK.sentence("BAD when coding is another one", P02CompressTest::anotherCoding);
        CHECK.sentence("BAD when x is no sample", P02CompressTest::noSample);
        CHECK.sentence("... and nothing is changed by any of it", P02CompressTest::changesNothing);
        CHECK.end();
    }

    private static void due(int coding, int x, int want) {
        CHECK.due("compress(" + coding + ", " + x + ")", new VoiceGateway().compress(coding, x), want);
    }

    private static void ordinary() {
        due(0, 0, 213);
        due(0, 15, 213);
        due(0, 16, 212);
        due(0, -1, 85);
        due(0, -16, 85);
        due(0, -17, 84);
        due(0, 511, 202);
        due(0, 512, 245);
        due(0, 32767, 170);
        due(0, -32768, 42);
        due(1, 0, 255);
        due(1, -1, 127);
        due(1, 3, 255);
        due(1, 4, 254);
        due(1, -4, 126);
        due(1, 32635, 128);
        due(1, 32767, 128);
        due(1, -32635, 0);
        due(1, -32768, 0);
    }

    private static void beginnings() {
        for (int s = 0; s < 8; s++) {
            for (int k = 0; k < 16; k++) {
                int begin0 = s == 0 ? 16 * k : (16 + k) << (s + 3);
                due(0, begin0, (128 + 16 * s + k) ^ 85);
                due(0, -begin0 - 1, (16 * s + k) ^ 85);
                int begin1 = ((16 + k) << (s + 3)) - 132;
                if (begin1 > 0) {
                    due(1, begin1, 255 - 16 * s - k);
                    due(1, -begin1, 127 - 16 * s - k);
                    due(1, begin1 - 1, 255 - 16 * s - k + 1);
                }
            }
        }
    }

    private static void everySample() {
        Model model = new Model();
        for (int x = -32768; x <= 32767; x++) {
            // An object is promised for 512 calls only.
            if (x % 200 == 0) {
                g = new VoiceGateway();
            }
            for (int coding = 0; coding < 2; coding++) {
                CHECK.due("compress(" + coding + ", " + x + ")", g.compress(coding, x), model.compress(coding, x));
            }
        }
    }

    private static void anotherCoding() {
        for (int coding : new int[] {-1, 2, 3, 4, Integer.MIN_VALUE, Integer.MAX_VALUE}) {
            due(coding, 0, VoiceGateway.BAD);
            due(coding, -32768, VoiceGateway.BAD);
            due(coding, 32768, VoiceGateway.BAD);
        }
        due(0, 0, 213);
        due(1, 0, 255);
    }

    private static void noSample() {
        for (int x : new int[] {-32769, 32768, 65535, 65536, Integer.MIN_VALUE, Integer.MAX_VALUE}) {
            due(0, x, VoiceGateway.BAD);
            due(1, x, VoiceGateway.BAD);
        }
        due(0, -32768, 42);
        due(0, 32767, 170);
        due(1, -32768, 0);
        due(1, 32767, 128);
    }

    private static void changesNothing() {
        Twins.due(CHECK, "compress(0, 30000)", 168, Calls::busy, g -> g.compress(0, 30000));
        Twins.due(CHECK, "compress(2, 0)", VoiceGateway.BAD, Calls::busy, g -> g.compress(2, 0));
        Twins.due(CHECK, "compress(1, 32768)", VoiceGateway.BAD, Calls::busy, g -> g.compress(1, 32768));
    }
}
