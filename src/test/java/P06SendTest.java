/** Promise 6: send. */
public final class P06SendTest {
    private static final Check CHECK = new Check();

    public static void main(String[] args) {
        packetsOfAllCodings();
        codingTwoGoesOn();
        codingTwoAtItsEdges();
        codesOfTheFirstStep();
        everyStepOfCodingTwo();
        CHECK.sentence("Takes the first n samples from the input", P06SendTest::takesTheFirst);
        CHECK.sentence("puts a packet of them at the end of the line: its length", P06SendTest::lengths);
        CHECK.sentence("The next sequence grows by 1 then (from 65535 to 0)", P06SendTest::sequenceWraps);
        CHECK.sentence("the time by n (wrapping)", P06SendTest::timeWraps);
        CHECK.sentence("BAD when coding is not 0 .. 3", P06SendTest::noCoding);
        CHECK.sentence("BAD when n is not 1 .. 16", P06SendTest::noNumber);
        CHECK.sentence("BAD when n is odd with coding 2", P06SendTest::oddNumber);
        CHECK.sentence("else EMPTY when the input has fewer", P06SendTest::fewer);
        CHECK.sentence("else FULL", P06SendTest::full);
        CHECK.end();
    }

    private static void packetsOfAllCodings() {
        VoiceGateway g = new VoiceGateway();
        g.begin(7, 9, 3);
        Calls.feedAll(g, 0, -1, 300, 0, -1, 300, 0, -1, 300, 258);
        CHECK.due("send(0, 3, false)", g.send(0, 3, false), 15);
        CHECK.due("send(1, 3, true)", g.send(1, 3, true), 15);
        CHECK.due("send(3, 3, true)", g.send(3, 3, true), 18);
        CHECK.due("send(3, 1, false)", g.send(3, 1, false), 14);
        CHECK.due("coding 0", Calls.bytes(g, 0), "128 8 0 7 0 0 0 9 0 0 0 3 213 85 199");
        CHECK.due("coding 1", Calls.bytes(g, 1), "128 128 0 8 0 0 0 12 0 0 0 3 255 127 228");
        CHECK.due("coding 3", Calls.bytes(g, 2), "128 139 0 9 0 0 0 15 0 0 0 3 0 0 255 255 1 44");
        CHECK.due("coding 3, one", Calls.bytes(g, 3), "128 11 0 10 0 0 0 18 0 0 0 3 1 2");
        CHECK.due("line()", g.line(), 4);
        CHECK.due("next sequence", g.figure(12), 11);
    }

    private static void codingTwoGoesOn() {
        VoiceGateway g = new VoiceGateway();
        Calls.feedAll(g, 1000, -1000, 32767, -32768, 0, 7);
        CHECK.due("send(2, 4, true)", g.send(2, 4, true), 18);
        CHECK.due("first", Calls.bytes(g, 0), "128 133 0 0 0 0 0 0 0 0 0 0 0 0 0 0 127 127");
        CHECK.due("value", g.figure(10), -92);
        CHECK.due("index", g.figure(11), 32);
        CHECK.due("send(2, 2, false)", g.send(2, 2, false), 17);
        // Step 157: 92 is 2 and not 1 more, so the value is 5, the index 31; then step 143 and a code 0.
        CHECK.due("second", Calls.bytes(g, 1), "128 5 0 1 0 0 0 4 0 0 0 0 255 164 32 0 32");
        CHECK.due("value", g.figure(10), 22);
        CHECK.due("index", g.figure(11), 30);
        Calls.sendOne(g, 0, 5);
        CHECK.due("another coding leaves the value", g.figure(10), 22);
        CHECK.due("and the index", g.figure(11), 30);
    }

    private static void codingTwoAtItsEdges() {
        VoiceGateway up = new VoiceGateway();
        for (int i = 0; i < 8; i++) {
            Calls.sendOne(up, 2, 32767, 32767, 32767, 32767);
            int value = up.figure(10);
            CHECK.due("value " + value + " is a sample", value >= -32768 && value <= 32767, true);
        }
        VoiceGateway down = new VoiceGateway();
        Calls.sendOne(down, 2, -32768, 32767, -32768, 32767, -32768, 32767, -32768, 32767,
                -32768, 32767, -32768, 32767, -32768, 32767, -32768, 32767);
        CHECK.due("the index ends at 88", down.figure(11), 88);
        CHECK.due("the value at 32767", down.figure(10), 32767);
        // 36862 is brought back to 32767 (index 87); from there a code 15 takes 55863 off.
        Calls.sendOne(down, 2, 32767, -32768);
        CHECK.due("brought back from above", down.figure(10), -23096);
        // -35382 is brought back to -32768 (index 87); from there a code 4 adds 33518.
        Calls.sendOne(down, 2, -32768, 0);
        CHECK.due("brought back from below", down.figure(10), 750);
        CHECK.due("the index, from 89", down.figure(11), 88);
        VoiceGateway still = new VoiceGateway();
        Calls.sendOne(still, 2, 0, 0);
        CHECK.due("the index begins at 0", still.figure(11), 0);
    }

    /** The first step is 7, its half 3, its quarter 1. */
    private static void codesOfTheFirstStep() {
        int[] codes = {0, 1, 1, 2, 3, 3, 3, 4, 5, 5, 6, 7, 7};
        for (int x = -12; x <= 12; x++) {
            VoiceGateway g = new VoiceGateway();
            Calls.sendOne(g, 2, x, 0);
            CHECK.due("first code of " + x, g.byteAt(0, 16) >> 4, codes[Math.abs(x)] + (x < 0 ? 8 : 0));
        }
    }

    /** At each index: the samples round every border between two codes, upwards and downwards. */
    private static void everyStepOfCodingTwo() {
        for (int index = 0; index < 89; index++) {
            int t = Model.STEPS[index];
            int[] borders = {0, t / 4, t / 2, t / 2 + t / 4, t, t + t / 4, t + t / 2, t + t / 2 + t / 4};
            for (int border : borders) {
                for (int off = -1; off <= 1; off++) {
                    oneCodeAt(index, border + off);
                    oneCodeAt(index, -border - off);
                }
            }
        }
    }

    private static void oneCodeAt(int index, int off) {
        VoiceGateway g = new VoiceGateway();
        int[] state = Calls.leadTo(g, index);
        CHECK.due("led to index " + index, g.figure(11), index);
        int x = Math.max(-32768, Math.min(32767, state[0] + off));
        int code = Model.halfByte(state, x);
        state = Model.changed(state, code);
        int second = Model.halfByte(state, x);
        state = Model.changed(state, second);
        Calls.sendOne(g, 2, x, x);
        CHECK.due("index " + index + ", off by " + off, g.byteAt(0, 16), 16 * code + second);
        CHECK.due("its value", g.figure(10), state[0]);
        CHECK.due("its index", g.figure(11), state[1]);
    }

    private static void takesTheFirst() {
        VoiceGateway g = new VoiceGateway();
        Calls.feedAll(g, 1, 2, 3, 4, 5, 6);
        CHECK.due("two of six", g.send(3, 2, false), 16);
        CHECK.due("one of four", g.send(3, 1, false), 14);
        CHECK.due("all three", g.send(3, 3, false), 18);
        CHECK.due("none is left", g.send(3, 1, false), VoiceGateway.EMPTY);
        CHECK.due("line", Calls.lineOf(g), "[128 11 0 0 0 0 0 0 0 0 0 0 0 1 0 2]"
                + "[128 11 0 1 0 0 0 2 0 0 0 0 0 3][128 11 0 2 0 0 0 3 0 0 0 0 0 4 0 5 0 6]");
    }

    private static void lengths() {
        for (int coding = 0; coding < 4; coding++) {
            for (int n = 1; n <= 16; n++) {
                VoiceGateway g = new VoiceGateway();
                Calls.sendOne(g, 3, 9);
                Calls.feedAll(g, new int[16]);
                int want = 12 + (coding == 3 ? 2 * n : n);
                if (coding == 2) {
                    want = n % 2 == 1 ? VoiceGateway.BAD : 16 + n / 2;
                }
                CHECK.due("send(" + coding + ", " + n + ", false)", g.send(coding, n, false), want);
                CHECK.due("packets then", g.line(), want < 0 ? 1 : 2);
                CHECK.due("its last byte is there", g.byteAt(1, want - 1) >= 0, want > 0);
                CHECK.due("and none behind it", g.byteAt(1, want), VoiceGateway.BAD);
            }
        }
    }

    private static void sequenceWraps() {
        VoiceGateway g = new VoiceGateway();
        g.begin(65534, 0, 0);
        for (int sequence : new int[] {65534, 65535, 0, 1}) {
            CHECK.due("next sequence", g.figure(12), sequence);
            Calls.sendOne(g, 1, 0, 0, 0);
            int k = g.line() - 1;
            CHECK.due("packet's sequence", 256 * g.byteAt(k, 2) + g.byteAt(k, 3), sequence);
        }
        CHECK.due("next sequence at last", g.figure(12), 2);
        for (int coding = 0; coding < 4; coding++) {
            VoiceGateway wraps = new VoiceGateway();
            wraps.begin(65535, 0, 0);
            Calls.sendOne(wraps, coding, 5, 5);
            CHECK.due("coding " + coding, wraps.figure(12), 0);
        }
    }

    private static void timeWraps() {
        VoiceGateway g = new VoiceGateway();
        g.begin(0, Integer.MAX_VALUE, 0);
        Calls.sendOne(g, 1, 0, 0, 0);
        Calls.sendOne(g, 1, 0);
        CHECK.due("before", Calls.bytes(g, 0), "128 0 0 0 127 255 255 255 0 0 0 0 255 255 255");
        CHECK.due("behind", Calls.bytes(g, 1), "128 0 0 1 128 0 0 2 0 0 0 0 255");
        g.begin(0, -1, 0);
        Calls.sendOne(g, 2, 0, 0);
        Calls.sendOne(g, 0, 0);
        Calls.sendOne(g, 3, new int[16]);
        Calls.sendOne(g, 1, 0);
        CHECK.due("time -1", Calls.bytes(g, 2).substring(10, 25), "255 255 255 255");
        CHECK.due("time 1", Calls.bytes(g, 3), "128 8 0 1 0 0 0 1 0 0 0 0 213");
        CHECK.due("time 18", Calls.bytes(g, 5), "128 0 0 3 0 0 0 18 0 0 0 0 255");
    }

    /** Refused as BAD, also where the input has fewer, or the line is full, or both; nothing is changed. */
    private static void dueBad(int coding, int n) {
        String call = "send(" + coding + ", " + n + ", ..)";
        Twins.due(CHECK, call, VoiceGateway.BAD, P06SendTest::sixteenFed, g -> g.send(coding, n, true));
        Twins.due(CHECK, call + ", busy", VoiceGateway.BAD, Calls::busy, g -> g.send(coding, n, false));
        Twins.due(CHECK, call + " before EMPTY", VoiceGateway.BAD, g -> { }, g -> g.send(coding, n, false));
        Twins.due(CHECK, call + " before FULL", VoiceGateway.BAD, P06SendTest::fullLineAndInput,
                g -> g.send(coding, n, false));
        Twins.due(CHECK, call + " before EMPTY and FULL", VoiceGateway.BAD, g -> Calls.sendRun(g, 0, 8),
                g -> g.send(coding, n, false));
    }

    private static void sixteenFed(VoiceGateway g) {
        for (int i = 0; i < 16; i++) {
            g.feed(1000 * i);
        }
    }

    private static void fullLineAndInput(VoiceGateway g) {
        Calls.sendRun(g, 65530, 8);
        for (int i = 0; i < 64; i++) {
            g.feed(1000 - i);
        }
    }

    private static void noCoding() {
        for (int coding : new int[] {-1, 4, 5, 8, 11, Integer.MIN_VALUE, Integer.MAX_VALUE}) {
            dueBad(coding, 2);
        }
        dueBad(4, 17);
        dueBad(-1, 0);
    }

    private static void noNumber() {
        for (int n : new int[] {0, -1, -2, 17, 18, 64, 65, Integer.MIN_VALUE, Integer.MAX_VALUE}) {
            for (int coding = 0; coding < 4; coding++) {
                dueBad(coding, n);
            }
        }
    }

    private static void oddNumber() {
        for (int n = 1; n <= 17; n += 2) {
            dueBad(2, n);
        }
    }

    private static void fewer() {
        VoiceGateway g = new VoiceGateway();
        Calls.feedAll(g, 1, 2, 3, 4, 5);
        for (int coding = 0; coding < 4; coding++) {
            int c = coding;
            Twins.due(CHECK, "6 of 5, coding " + c, VoiceGateway.EMPTY,
                    x -> Calls.feedAll(x, 1, 2, 3, 4, 5), x -> x.send(c, 6, true));
            Twins.due(CHECK, "4 of 3, coding " + c, VoiceGateway.EMPTY, Calls::busy, x -> x.send(c, 4, true));
            Twins.due(CHECK, "2 of 0 before FULL, coding " + c, VoiceGateway.EMPTY,
                    x -> Calls.sendRun(x, 0, 8), x -> x.send(c, 2, false));
            Twins.due(CHECK, "16 of 15, coding " + c, VoiceGateway.EMPTY,
                    x -> Calls.feedAll(x, new int[15]), x -> x.send(c, 16, false));
        }
        CHECK.due("6 of 5", g.send(3, 6, false), VoiceGateway.EMPTY);
        CHECK.due("5 of 5", g.send(3, 5, false), 22);
        CHECK.due("1 of 0", g.send(3, 1, false), VoiceGateway.EMPTY);
    }

    private static void full() {
        for (int coding = 0; coding < 4; coding++) {
            int c = coding;
            Twins.due(CHECK, "2 on a full line, coding " + c, VoiceGateway.FULL,
                    P06SendTest::fullLineAndInput, x -> x.send(c, 2, true));
            Twins.due(CHECK, "16 on a full line, coding " + c, VoiceGateway.FULL,
                    P06SendTest::fullLineAndInput, x -> x.send(c, 16, false));
        }
        VoiceGateway g = new VoiceGateway();
        Calls.sendRun(g, 0, 7);
        Calls.feedAll(g, 41, 42);
        CHECK.due("the eighth", g.send(3, 1, false), 14);
        CHECK.due("the ninth", g.send(3, 1, false), VoiceGateway.FULL);
        g.receive();
        CHECK.due("with room", g.send(3, 1, false), 14);
        CHECK.due("sequence, time and sample wait for it", Calls.bytes(g, 7), "128 11 0 8 0 0 0 8 0 0 0 1 0 42");
    }
}
