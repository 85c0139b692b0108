/** Promise 3: expand, for every code of both codings. */
public final class P03ExpandTest {
    private static final Check CHECK = new Check();

    public static void main(String[] args) {
        ordinary();
        everyCode();
        everyCodeComesBack();
        CHECK.sentence("40000 when coding is another one", P03ExpandTest::anotherCoding);
        CHECK.sentence("40000 when code is not 0 .. 255", P03ExpandTest::noCode);
        CHECK.sentence("... and nothing is changed by any of it", P03ExpandTest::changesNothing);
        CHECK.end();
    }

    private static void due(int coding, int code, int want) {
        CHECK.due("expand(" + coding + ", " + code + ")", new VoiceGateway().expand(coding, code), want);
    }

    private static void ordinary() {
        due(0, 213, 8);
        due(0, 85, -8);
        due(0, 197, 264);
        due(0, 245, 528);
        due(0, 170, 32256);
        due(0, 42, -32256);
        due(1, 255, 0);
        due(1, 127, 0);
        due(1, 254, 8);
        due(1, 126, -8);
        due(1, 239, 132);
        due(1, 128, 32124);
        due(1, 0, -32124);
    }

    private static void everyCode() {
        for (int s = 0; s < 8; s++) {
            for (int k = 0; k < 16; k++) {
                int middle0 = s == 0 ? 16 * k + 8 : ((16 + k) << (s + 3)) + (4 << s);
                due(0, (128 + 16 * s + k) ^ 85, middle0);
                due(0, (16 * s + k) ^ 85, -middle0);
                int middle1 = ((16 + k) << (s + 3)) + (4 << s) - 132;
                due(1, 255 - 16 * s - k, middle1);
                due(1, 127 - 16 * s - k, -middle1);
            }
        }
    }

    private static void everyCodeComesBack() {
        for (int code = 0; code < 256; code++) {
            VoiceGateway g = new VoiceGateway();
            CHECK.due("coding 0, code " + code, g.compress(0, g.expand(0, code)), code);
            // 127 stands for 0 from below, which 255 stands for too.
            CHECK.due("coding 1, code " + code, g.compress(1, g.expand(1, code)), code == 127 ? 255 : code);
        }
    }

    private static void anotherCoding() {
        for (int coding : new int[] {-1, 2, 3, 4, Integer.MIN_VALUE, Integer.MAX_VALUE}) {
            due(coding, 0, 40000);
            due(coding, 255, 40000);
            due(coding, 256, 40000);
        }
        due(0, 0, -5504);
        due(1, 0, -32124);
    }

    private static void noCode() {
        for (int code : new int[] {-1, 256, 257, -256, Integer.MIN_VALUE, Integer.MAX_VALUE}) {
            due(0, code, 40000);
            due(1, code, 40000);
        }
        due(0, 0, -5504);
        due(0, 255, 848);
        due(1, 0, -32124);
        due(1, 255, 0);
    }

    private static void changesNothing() {
        Twins.due(CHECK, "expand(1, 128)", 32124, Calls::busy, g -> g.expand(1, 128));
        Twins.due(CHECK, "expand(2, 0)", 40000, Calls::busy, g -> g.expand(2, 0));
        Twins.due(CHECK, "expand(0, 256)", 40000, Calls::busy, g -> g.expand(0, 256));
    }
}
