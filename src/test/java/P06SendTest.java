/** Promise 6: send. */
public final class P06SendTest {
    private static final Check CHECK = new Check();

    public static void main(String[] args) {
        packetsOfAllCodings();
        codingTwoGoesOn();
        codingTwoAtItsEdges();
        codesOfTheFirstStep();
        everyStepOfCodingTwo();
        sequenceAndTimeWrap();
        lengths();
        orderOfRefusals();
        CHECK.end();
    }

    private static void packetsOfAllCodings() {
        VoiceGateway g = new VoiceGateway();
        g.begin(7, 9, 3);
        Calls.feedAll(g, 0, -1, 300, 0, -1, 300, 0, -1, 300, 258);
        CHECK.due("send(0, 3, false)", g.send(0, 3, false), 15);
        CHECK.due("send(1, 3, true)", g.send(1, 3, true), 15);
        CHECK.due("send(3, 3, true)", g.send(3, 3, true), 18);
        CHECK.due("send(3, 1, false)", g.send(3, 1, false), 14);
        CHECK.due("coding 0", Calls.bytes(g, 0), "128 8 0 7 0 0 0 9 0 0 0 3 213 85 199");
        CHECK.due("coding 1", Calls.bytes(g, 1), "128 128 0 8 0 0 0 12 0 0 0 3 255 127 228");
        CHECK.due("coding 3", Calls.bytes(g, 2), "128 139 0 9 0 0 0 15 0 0 0 3 0 0 255 255 1 44");
        CHECK.due("coding 3, one", Calls.bytes(g, 3), "128 11 0 10 0 0 0 18 0 0 0 3 1 2");
        CHECK.due("line()", g.line(), 4);
        CHECK.due("next sequence", g.figure(12), 11);
    }

    private static void codingTwoGoesOn() {
        VoiceGateway g = new VoiceGateway();
        Calls.feedAll(g, 1000, -1000, 32767, -32768, 0, 7);
        CHECK.due("send(2, 4, true)", g.send(2, 4, true), 18);
        CHECK.due("first", Calls.bytes(g, 0), "128 133 0 0 0 0 0 0 0 0 0 0 0 0 0 0 127 127");
        CHECK.due("value", g.figure(10), -92);
        CHECK.due("index", g.figure(11), 32);
        CHECK.due("send(2, 2, false)", g.send(2, 2, false), 17);
        // Step 157: 92 is 2 and not 1 more, so the value is 5, the index 31; then step 143 and a code 0.
        CHECK.due("second", Calls.bytes(g, 1), "128 5 0 1 0 0 0 4 0 0 0 0 255 164 32 0 32");
        CHECK.due("value", g.figure(10), 22);
        CHECK.due("index", g.figure(11), 30);
        Calls.sendOne(g, 0, 5);
        CHECK.due("another coding leaves the value", g.figure(10), 22);
        CHECK.due("and the index", g.figure(11), 30);
    }

    private static void codingTwoAtItsEdges() {
        VoiceGateway up = new VoiceGateway();
        for (int i = 0; i < 8; i++) {
            Calls.sendOne(up, 2, 32767, 32767, 32767, 32767);
            int value = up.figure(10);
            CHECK.due("value " + value + " is a sample", value >= -32768 && value <= 32767, true);
        }
        VoiceGateway down = new VoiceGateway();
        Calls.sendOne(down, 2, -32768, 32767, -32768, 32767, -32768, 32767, -32768, 32767,
                -32768, 32767, -32768, 32767, -32768, 32767, -32768, 32767);
        CHECK.due("the index ends at 88", down.figure(11), 88);
        CHECK.due("the value at 32767", down.figure(10), 32767);
        // 36862 is brought back to 32767 (index 87); from there a code 15 takes 55863 off.
        Calls.sendOne(down, 2, 32767, -32768);
        CHECK.due("brought back from above", down.figure(10), -23096);
        // -35382 is brought back to -32768 (index 87); from there a code 4 adds 33518.
        Calls.sendOne(down, 2, -32768, 0);
        CHECK.due("brought back from below", down.figure(10), 750);
        CHECK.due("the index, from 89", down.figure(11), 88);
        VoiceGateway still = new VoiceGateway();
        Calls.sendOne(still, 2, 0, 0);
        CHECK.due("the index begins at 0", still.figure(11), 0);
    }

    /** The first step is 7, its half 3, its quarter 1. */
    private static void codesOfTheFirstStep() {
        int[] codes = {0, 1, 1, 2, 3, 3, 3, 4, 5, 5, 6, 7, 7};
        for (int x = -12; x <= 12; x++) {
            VoiceGateway g = new VoiceGateway();
            Calls.sendOne(g, 2, x, 0);
            CHECK.due("first code of " + x, g.byteAt(0, 16) >> 4, codes[Math.abs(x)] + (x < 0 ? 8 : 0));
        }
    }

    /** At each index: the samples round every border between two codes, upwards and downwards. */
    private static void everyStepOfCodingTwo() {
        for (int index = 0; index < 89; index++) {
            int t = Model.STEPS[index];
            int[] borders = {0, t / 4, t / 2, t / 2 + t / 4, t, t + t / 4, t + t / 2, t + t / 2 + t / 4};
            for (int border : borders) {
                for (int off = -1; off <= 1; off++) {
                    oneCodeAt(index, border + off);
                    oneCodeAt(index, -border - off);
                }
            }
        }
    }

    private static void oneCodeAt(int index, int off) {
        VoiceGateway g = new VoiceGateway();
        int[] state = driveTo(g, index);
        CHECK.due("driven to index " + index, g.figure(11), index);
        int x = Math.max(-32768, Math.min(32767, state[0] + off));
        int code = Model.halfByte(state, x);
        state = Model.changed(state, code);
        int second = Model.halfByte(state, x);
        state = Model.changed(state, second);
        Calls.sendOne(g, 2, x, x);
        CHECK.due("index " + index + ", off by " + off, g.byteAt(0, 16), 16 * code + second);
        CHECK.due("its value", g.figure(10), state[0]);
        CHECK.due("its index", g.figure(11), state[1]);
    }

    /** Codes 4 raise the index by 2, codes 0 .. 3 let it fall by 1; the line is empty afterwards. */
    private static int[] driveTo(VoiceGateway g, int index) {
        int[] state = {0, 0};
        int pairs = 0;
        while (state[1] != index) {
            for (int i = 0; i < 2; i++) {
                boolean up = state[1] < index;
                int t = Model.STEPS[state[1]];
                int x = state[0] + (up ? state[0] > 0 ? -t : t : 0);
                state = Model.changed(state, Model.halfByte(state, x));
                g.feed(x);
            }
            pairs++;
            g.send(2, 2, false);
            g.disturb(0, 0);
            if (pairs > 100) {
                throw new IllegalStateException("index " + index + " is not reached");
            }
        }
        return state;
    }

    private static void sequenceAndTimeWrap() {
        VoiceGateway g = new VoiceGateway();
        g.begin(65535, Integer.MAX_VALUE, 0);
        Calls.sendOne(g, 1, 0, 0, 0);
        CHECK.due("next sequence", g.figure(12), 0);
        Calls.sendOne(g, 1, 0);
        CHECK.due("before", Calls.bytes(g, 0), "128 0 255 255 127 255 255 255 0 0 0 0 255 255 255");
        CHECK.due("behind", Calls.bytes(g, 1), "128 0 0 0 128 0 0 2 0 0 0 0 255");
        CHECK.due("next sequence", g.figure(12), 1);
    }

    private static void lengths() {
        for (int coding = 0; coding < 4; coding++) {
            for (int n = 1; n <= 16; n++) {
                VoiceGateway g = new VoiceGateway();
                Calls.feedAll(g, new int[16]);
                int want = 12 + (coding == 3 ? 2 * n : n);
                if (coding == 2) {
                    want = n % 2 == 1 ? VoiceGateway.BAD : 16 + n / 2;
                }
                CHECK.due("send(" + coding + ", " + n + ", false)", g.send(coding, n, false), want);
                CHECK.due("packets then", g.line(), want < 0 ? 0 : 1);
            }
        }
    }

    private static void orderOfRefusals() {
        VoiceGateway g = new VoiceGateway();
        refusedAsBad(g, "without samples");
        Calls.sendRun(g, 0, 8);
        refusedAsBad(g, "on a full line");
        String before = Calls.state(g);
        CHECK.due("EMPTY before FULL", g.send(0, 1, false), VoiceGateway.EMPTY);
        Calls.feedAll(g, 41, 42);
        CHECK.due("FULL", g.send(2, 2, true), VoiceGateway.FULL);
        CHECK.due("FULL", g.send(3, 2, true), VoiceGateway.FULL);
        CHECK.due("nothing has changed", Calls.state(g), before);
        g.receive();
        CHECK.due("the samples and the time too", g.send(3, 2, false), 16);
        CHECK.due("packet", Calls.bytes(g, 7), "128 11 0 8 0 0 0 8 0 0 0 1 0 41 0 42");
    }

    private static void refusedAsBad(VoiceGateway g, String when) {
        int[][] wrong = {{-1, 1}, {4, 1}, {0, 0}, {1, -1}, {3, 17}, {2, 0}, {2, 1}, {2, 15}, {2, 18},
            {Integer.MAX_VALUE, 1}, {Integer.MIN_VALUE, 1}, {0, Integer.MAX_VALUE}, {0, Integer.MIN_VALUE}};
        for (int[] w : wrong) {
            CHECK.due("send(" + w[0] + ", " + w[1] + ", false) " + when, g.send(w[0], w[1], false), VoiceGateway.BAD);
        }
    }
}
