/** The boundary cases of the four codings, sentence by sentence. */
public final class P00CodingsTest {
    private static final Check CHECK = new Check();

    public static void main(String[] args) {
        CHECK.sentence("For a sample x let m be x, or -x - 1 if x is below 0", P00CodingsTest::mOfCoding0);
        CHECK.sentence("interval (s, k) begins at 16 k for s = 0, and at (16 + k) * 2^(s+3) else",
                P00CodingsTest::beginningsOfCoding0);
        CHECK.sentence("it ends before the next one begins, (7, 15) before 32768", P00CodingsTest::endsOfCoding0);
        CHECK.sentence("the code is 16 s + k, and 128 more if x is not below 0; then xor 85",
                P00CodingsTest::signOfCoding0);
        CHECK.sentence("its beginning and 8 for s = 0, its beginning and 2^(s+2) else, or 0 less that",
                P00CodingsTest::middlesOfCoding0);
        CHECK.sentence("let m be |x|, but 32635 if that is more, and 132 more", P00CodingsTest::mOfCoding1);
        CHECK.sentence("begins at (16 + k) * 2^(s+3) and is 2^(s+3) wide", P00CodingsTest::intervalsOfCoding1);
        CHECK.sentence("255 less 16 s + k, and less 128 more if x is below 0", P00CodingsTest::signOfCoding1);
        CHECK.sentence("the middle of its interval less 132, or to 0 less that if it is below 128",
                P00CodingsTest::middlesOfCoding1);
        CHECK.sentence("It has a VALUE (a sample) and an INDEX 0 .. 88, both 0 at first", P00CodingsTest::newCoding2);
        CHECK.sentence("h, q the half and the quarter of t, rounded down", P00CodingsTest::roundedDown);
        CHECK.sentence("The code has 8 if d is below 0", P00CodingsTest::eight);
        CHECK.sentence("4 if r is not less than t (t is taken off r then)", P00CodingsTest::four);
        CHECK.sentence("2 if r is not less than h (likewise)", P00CodingsTest::two);
        CHECK.sentence("1 if r is not less than q", P00CodingsTest::one);
        CHECK.sentence("the value grows (or, with 8, gets less) by the eighth of t, rounded down, and t, h, q",
                P00CodingsTest::changesOfValue);
        CHECK.sentence("and is brought back to -32768 or 32767 if it is beyond", P00CodingsTest::valueBroughtBack);
        CHECK.sentence("then the index changes by -1 (without 4), or by 2, 4, 6, 8 (with 4 and 0 .. 3 besides)",
                P00CodingsTest::changesOfIndex);
        CHECK.sentence("and is brought back to 0 or 88", P00CodingsTest::indexBroughtBack);
        CHECK.sentence("Coding changes both by each code, too", P00CodingsTest::codingChangesToo);
        CHECK.sentence("Coding 3 gives two bytes a sample, the higher one first, with the sign as usual",
                P00CodingsTest::coding3);
        CHECK.end();
    }

    private static void dueCode(int coding, int x, int want) {
        CHECK.due("compress(" + coding + ", " + x + ")", new VoiceGateway().compress(coding, x), want);
    }

    private static void dueMiddle(int coding, int code, int want) {
        CHECK.due("expand(" + coding + ", " + code + ")", new VoiceGateway().expand(coding, code), want);
    }

    private static int begin0(int s, int k) {
        return s == 0 ? 16 * k : (16 + k) << (s + 3);
    }

    private static int begin1(int s, int k) {
        return (16 + k) << (s + 3);
    }

    private static void mOfCoding0() {
        VoiceGateway g = new VoiceGateway();
        for (int x : new int[] {0, 1, 15, 16, 255, 256, 4095, 4096, 32766, 32767}) {
            CHECK.due(x + " and " + (-x - 1), g.compress(0, x) ^ g.compress(0, -x - 1), 128);
        }
        dueCode(0, 0, 213);
        dueCode(0, -1, 85);
        dueCode(0, -16, 85);
        dueCode(0, -17, 84);
        dueCode(0, -32768, 42);
    }

    private static void beginningsOfCoding0() {
        for (int code = 0; code < 128; code++) {
            int begin = begin0(code / 16, code % 16);
            dueCode(0, begin, (128 + code) ^ 85);
            dueCode(0, -begin - 1, code ^ 85);
        }
        dueCode(0, 240, (128 + 15) ^ 85);
        dueCode(0, 256, (128 + 16) ^ 85);
        dueCode(0, 512, (128 + 32) ^ 85);
        dueCode(0, 31744, (128 + 127) ^ 85);
    }

    private static void endsOfCoding0() {
        for (int code = 0; code < 128; code++) {
            int last = (code == 127 ? 32768 : begin0((code + 1) / 16, (code + 1) % 16)) - 1;
            dueCode(0, last, (128 + code) ^ 85);
            dueCode(0, -last - 1, code ^ 85);
        }
        dueCode(0, 255, (128 + 15) ^ 85);
        dueCode(0, 511, (128 + 31) ^ 85);
        dueCode(0, 31743, (128 + 126) ^ 85);
        dueCode(0, 32767, (128 + 127) ^ 85);
    }

    private static void signOfCoding0() {
        dueCode(0, 0, 128 ^ 85);
        dueCode(0, 1, 128 ^ 85);
        dueCode(0, -1, 85);
        dueCode(0, 32767, 255 ^ 85);
        dueCode(0, -32768, 127 ^ 85);
    }

    private static void middlesOfCoding0() {
        for (int code = 0; code < 128; code++) {
            int s = code / 16;
            int middle = begin0(s, code % 16) + (s == 0 ? 8 : 1 << (s + 2));
            dueMiddle(0, (128 + code) ^ 85, middle);
            dueMiddle(0, code ^ 85, -middle);
        }
        dueMiddle(0, (128 + 15) ^ 85, 248);
        dueMiddle(0, (128 + 16) ^ 85, 264);
        dueMiddle(0, 255 ^ 85, 32256);
        dueMiddle(0, 127 ^ 85, -32256);
    }

    private static void mOfCoding1() {
        for (int x : new int[] {32634, 32635, 32636, 32767}) {
            dueCode(1, x, 128);
            dueCode(1, -x, 0);
        }
        dueCode(1, -32768, 0);
        // 31744, where the last interval begins, is 31612 and 132 more.
        dueCode(1, 31612, 128);
        dueCode(1, 31611, 129);
        dueCode(1, -31612, 0);
        dueCode(1, -31611, 1);
        dueCode(1, 0, 255);
    }

    private static void intervalsOfCoding1() {
        for (int code = 0; code < 128; code++) {
            int begin = begin1(code / 16, code % 16);
            int last = begin + (8 << (code / 16)) - 1;
            // 132 is in the interval that begins at 128, so the first one has a part alone.
            int first = Math.max(begin, 132) - 132;
            int end = Math.min(last, 32767) - 132;
            dueCode(1, first, 255 - code);
            dueCode(1, end, 255 - code);
            dueCode(1, -end, 127 - code);
            if (first > 0) {
                dueCode(1, -first, 127 - code);
            }
        }
        dueCode(1, 3, 255);
        dueCode(1, 4, 254);
        dueCode(1, 123, 240);
        dueCode(1, 124, 239);
    }

    private static void signOfCoding1() {
        dueCode(1, 0, 255);
        dueCode(1, -1, 127);
        dueCode(1, 1, 255);
        dueCode(1, 32767, 128);
        dueCode(1, -32767, 0);
    }

    private static void middlesOfCoding1() {
        for (int code = 0; code < 128; code++) {
            int s = code / 16;
            int middle = begin1(s, code % 16) + (1 << (s + 2)) - 132;
            dueMiddle(1, 255 - code, middle);
            dueMiddle(1, 127 - code, -middle);
        }
        dueMiddle(1, 255, 0);
        dueMiddle(1, 127, 0);
        dueMiddle(1, 128, 32124);
        dueMiddle(1, 0, -32124);
    }

    private static void newCoding2() {
        VoiceGateway g = new VoiceGateway();
        CHECK.due("value", g.figure(10), 0);
        CHECK.due("index", g.figure(11), 0);
        Calls.sendOne(g, 2, 0, 0);
        CHECK.due("packet", Calls.bytes(g, 0), "128 5 0 0 0 0 0 0 0 0 0 0 0 0 0 0 0");
    }

    /** The code of a sample off by d from a new value, for which t is 7, h 3, q 1. */
    private static void dueHalfByte(int d, int want) {
        VoiceGateway g = new VoiceGateway();
        Calls.sendOne(g, 2, d, d);
        CHECK.due("the code of " + d, g.byteAt(0, 16) >> 4, want);
    }

    private static void roundedDown() {
        // 7 has the half 3 and the quarter 1; rounded otherwise, 3 and 1 would be less than these.
        dueHalfByte(3, 2);
        dueHalfByte(1, 1);
        dueHalfByte(10, 6);
        dueHalfByte(8, 5);
        duePlayed(0, 0, 0x20, "3");
        duePlayed(0, 0, 0x10, "1");
        // 31 has 15, 7 and 3.
        duePlayed(0, 15, 0x20, "18");
        duePlayed(0, 15, 0x10, "10");
        duePlayed(0, 15, 0x00, "3");
    }

    private static void eight() {
        dueHalfByte(0, 0);
        dueHalfByte(-1, 8 + 1);
        dueHalfByte(1, 1);
        dueHalfByte(-32768, 15);
        dueHalfByte(32767, 7);
        VoiceGateway g = new VoiceGateway();
        Calls.sendOne(g, 2, 3, 3);
        CHECK.due("no difference to a value of 3", g.byteAt(0, 16) & 15, 0);
        VoiceGateway below = new VoiceGateway();
        Calls.sendOne(below, 2, 3, 2);
        CHECK.due("2 is below 3", below.byteAt(0, 16) & 15, 9);
    }

    private static void four() {
        dueHalfByte(6, 3);
        dueHalfByte(7, 4);
        dueHalfByte(8, 5);
        dueHalfByte(-6, 8 + 3);
        dueHalfByte(-7, 8 + 4);
    }

    private static void two() {
        dueHalfByte(2, 1);
        dueHalfByte(3, 2);
        dueHalfByte(4, 3);
        dueHalfByte(9, 5);
        dueHalfByte(10, 6);
        dueHalfByte(-2, 8 + 1);
        dueHalfByte(-3, 8 + 2);
        dueHalfByte(-10, 8 + 6);
    }

    private static void one() {
        dueHalfByte(0, 0);
        dueHalfByte(1, 1);
        dueHalfByte(7, 4);
        dueHalfByte(8, 5);
        dueHalfByte(10, 6);
        dueHalfByte(11, 7);
        dueHalfByte(-11, 8 + 7);
    }

    /** Plays a packet of coding 2 with the given value, index and bytes of samples; tells its first samples. */
    private static String played(int value, int index, int... codes) {
        VoiceGateway g = new VoiceGateway();
        Calls.sendOne(g, 2, new int[2 * codes.length]);
        Calls.pokeAll(g, 0, 12, (value >> 8) & 255, value & 255, index, 0);
        Calls.pokeAll(g, 0, 16, codes);
        CHECK.due("receive()", g.receive(), 0);
        CHECK.due("play()", g.play(), 2 * codes.length);
        return Calls.outputOf(g);
    }

    private static void duePlayed(int value, int index, int codes, String want) {
        String got = played(value, index, codes);
        String what = "value " + value + ", index " + index + ", byte " + codes;
        CHECK.due(what, want.contains(" ") ? got : got.split(" ")[0], want);
    }

    private static void changesOfValue() {
        // 31 and its 15, 7 and 3.
        int[] changes = {3, 10, 18, 25, 34, 41, 49, 56};
        for (int code = 0; code < 8; code++) {
            duePlayed(100, 15, 16 * code, String.valueOf(100 + changes[code]));
            duePlayed(100, 15, 16 * (8 + code), String.valueOf(100 - changes[code]));
        }
        duePlayed(0, 0, 0x00, "0");
        duePlayed(0, 0, 0x80, "0");
        duePlayed(0, 1, 0x00, "1");
        duePlayed(0, 1, 0x80, "-1");
    }

    private static void valueBroughtBack() {
        // A code 7 adds 11 at index 0; a code 8 behind it takes 2 off at index 8.
        duePlayed(32755, 0, 0x78, "32766 32764");
        duePlayed(32756, 0, 0x78, "32767 32765");
        duePlayed(32757, 0, 0x78, "32767 32765");
        duePlayed(32767, 0, 0x78, "32767 32765");
        duePlayed(-32756, 0, 0xf0, "-32767 -32765");
        duePlayed(-32757, 0, 0xf0, "-32768 -32766");
        duePlayed(-32758, 0, 0xf0, "-32768 -32766");
        duePlayed(-32768, 0, 0xf0, "-32768 -32766");
        // The greatest change is 61436, at index 88.
        duePlayed(32767, 88, 0x7f, "32767 -28669");
        duePlayed(-32768, 88, 0xf7, "-32768 28668");
        duePlayed(-28669, 88, 0x70, "32767 32767");
        duePlayed(28668, 88, 0xf8, "-32768 -32768");
    }

    /** A code 4 behind tells the index: it adds the step there and its eighth. */
    private static void dueIndex(int index, int code, int want) {
        int before = (code & 8) == 0 ? -20000 : 20000;
        String[] got = played(before, index, 16 * code + ((code & 8) == 0 ? 12 : 4)).split(" ");
        int change = Math.abs(Integer.parseInt(got[1]) - Integer.parseInt(got[0]));
        int step = Model.STEPS[want];
        CHECK.due("index " + index + ", code " + code, change, Math.min(step + step / 8, changeLeft(got[0], code)));
    }

    /** How far the value can go back at most before it is brought back. */
    private static int changeLeft(String value, int code) {
        int v = Integer.parseInt(value);
        return (code & 8) == 0 ? v + 32768 : 32767 - v;
    }

    private static void changesOfIndex() {
        int[] changes = {-1, -1, -1, -1, 2, 4, 6, 8};
        for (int code = 0; code < 16; code++) {
            for (int index : new int[] {1, 20, 40, 60}) {
                dueIndex(index, code, index + changes[code % 8]);
            }
        }
    }

    private static void indexBroughtBack() {
        for (int code : new int[] {0, 3, 8, 11}) {
            dueIndex(0, code, 0);
            dueIndex(1, code, 0);
            dueIndex(2, code, 1);
            dueIndex(88, code, 87);
        }
        int[] changes = {2, 4, 6, 8};
        for (int i = 0; i < 4; i++) {
            for (int index = 88 - changes[i] - 1; index <= 88; index++) {
                dueSenderIndex(index, 4 + i, Math.min(88, index + changes[i]));
                dueFinalIndex(index, 4 + i, Math.min(88, index + changes[i]));
            }
        }
    }

    /** Brought back also in play(): codes 0 and 8 lead down, so that the value stays away from its ends. */
    private static void dueFinalIndex(int index, int code, int want) {
        String[] got = played(-32768, index, 16 * (8 + code), 0x00).split(" ");
        CHECK.due("value behind index " + index, Integer.parseInt(got[0]), -32768);
        int eighth = Model.STEPS[want] / 8;
        int next = Model.STEPS[want - 1] / 8;
        int last = Model.STEPS[want - 2] / 8;
        CHECK.due("first", Integer.parseInt(got[1]), -32768 + eighth);
        CHECK.due("second", Integer.parseInt(got[2]), -32768 + eighth + next);
        CHECK.due("third", Integer.parseInt(got[3]), -32768 + eighth + next + last);
    }

    /** The sender's index behind a code, from an index to which it is led first. */
    private static void dueSenderIndex(int index, int code, int want) {
        VoiceGateway g = new VoiceGateway();
        int[] state = Calls.leadTo(g, index);
        int t = Model.STEPS[index];
        int off = t + (code & 2) / 2 * (t / 2) + (code & 1) * (t / 4);
        int x = state[0] > 0 ? state[0] - off : state[0] + off;
        if (x < -32768 || x > 32767) {
            // No sample is that far away from the value; three of the codes cannot come there.
            return;
        }
        int[] behind = Model.changed(state, Model.halfByte(state, x));
        CHECK.due("index by the rule", behind[1], want);
        Calls.sendOne(g, 2, x, behind[0]);
        CHECK.due("sender's index from " + index + " by " + code, g.figure(11), want - 1);
    }

    private static void codingChangesToo() {
        VoiceGateway g = new VoiceGateway();
        // A code 7 adds 11 and 8 to the index; then 2 and 1 off, by a code 0 at step 16.
        Calls.sendOne(g, 2, 100, 11);
        CHECK.due("codes", g.byteAt(0, 16), 0x70);
        CHECK.due("value", g.figure(10), 13);
        CHECK.due("index", g.figure(11), 7);
        VoiceGateway still = new VoiceGateway();
        Calls.sendOne(still, 2, 0, 0);
        CHECK.due("index below 0", still.figure(11), 0);
        VoiceGateway loud = new VoiceGateway();
        for (int i = 0; i < 4; i++) {
            Calls.sendOne(loud, 2, -32768, 32767, -32768, 32767);
        }
        CHECK.due("value above 32767", loud.figure(10), 32767);
        CHECK.due("index above 88", loud.figure(11), 88);
        // Two codes 0 would add 4095 and 3724.
        Calls.sendOne(loud, 2, 32767, 32767);
        CHECK.due("value above 32767 once more", loud.figure(10), 32767);
        CHECK.due("index", loud.figure(11), 86);
        Calls.sendOne(loud, 2, -32768, -32768);
        CHECK.due("value above -32768", loud.figure(10), -30304);
        // A code 8 takes 3724 off and is beyond; a code 0 adds 3385 to -32768 then.
        Calls.sendOne(loud, 2, -32768, -32768);
        CHECK.due("value below -32768", loud.figure(10), -29383);
    }

    private static void coding3() {
        int[] samples = {0, 1, -1, 255, 256, -256, -257, 32767, -32767, -32768};
        VoiceGateway g = new VoiceGateway();
        Calls.sendOne(g, 3, samples);
        for (int i = 0; i < samples.length; i++) {
            int pair = samples[i] < 0 ? samples[i] + 65536 : samples[i];
            CHECK.due("higher byte of " + samples[i], g.byteAt(0, 12 + 2 * i), pair / 256);
            CHECK.due("lower byte of " + samples[i], g.byteAt(0, 13 + 2 * i), pair % 256);
        }
        g.receive();
        g.play();
        for (int i = 0; i < samples.length; i++) {
            CHECK.due("sample " + i, g.sample(i), samples[i]);
        }
    }
}
