/** Runs of calls that many tests need. */
final class Calls {
    private Calls() {
    }

    static void feedAll(VoiceGateway g, int... samples) {
        for (int x : samples) {
            if (!g.feed(x)) {
                throw new IllegalStateException("feed(" + x + ") was refused");
            }
        }
    }

    /** Puts n packets of one sample each with coding 3 on the line, from the given sequence on. */
    static void sendRun(VoiceGateway g, int sequence, int n) {
        g.begin(sequence, 0, 1);
        for (int i = 0; i < n; i++) {
            sendOne(g, 3, 100 + i);
        }
    }

    static void sendOne(VoiceGateway g, int coding, int... samples) {
        sendMarked(g, coding, false, samples);
    }

    static void sendMarked(VoiceGateway g, int coding, boolean mark, int... samples) {
        feedAll(g, samples);
        int length = g.send(coding, samples.length, mark);
        if (length < 0) {
            throw new IllegalStateException("send answered " + length);
        }
    }

    static void pokeAll(VoiceGateway g, int k, int from, int... bytes) {
        for (int i = 0; i < bytes.length; i++) {
            if (!g.poke(k, from + i, bytes[i])) {
                throw new IllegalStateException("poke(" + k + ", " + (from + i) + ", " + bytes[i] + ") was refused");
            }
        }
    }

    static void receiveAll(VoiceGateway g) {
        int n = g.line();
        for (int i = 0; i < n; i++) {
            g.receive();
        }
    }

    static void playTimes(VoiceGateway g, int n) {
        for (int i = 0; i < n; i++) {
            g.play();
        }
    }

    /** Sends a packet with its own sequence and time, and receives it. */
    static int bring(VoiceGateway g, int sequence, int time, boolean mark, int... samples) {
        g.begin(sequence, time, 1);
        sendMarked(g, 3, mark, samples);
        return g.receive();
    }

    /**
     * A past that leaves something everywhere. The buffer plays and has lost one packet; the next one is missing
     * too, and the one behind has the time that will be expected, so that a change of any part shows later.
     */
    static void busy(VoiceGateway g) {
        g.prefill(2);
        g.begin(65533, 1000, 1);
        sendOne(g, 3, 1000, -2000);
        sendOne(g, 3, 1, 1);
        sendOne(g, 3, 1, 1);
        sendOne(g, 3, 300, -400);
        g.disturb(1, 0);
        g.disturb(1, 0);
        receiveAll(g);
        playTimes(g, 2);
        sendMarked(g, 2, true, 500, -700);
        sendOne(g, 0, 9);
        feedAll(g, 11, 12, 13);
    }

    /** A full output, a full line and a full input, with sixteen samples a packet; the buffer plays and has none. */
    static void fullEverywhere(VoiceGateway g) {
        fullOutput(g);
        for (int i = 0; i < 16; i++) {
            g.feed(i);
        }
        g.send(1, 16, false);
        for (int i = 0; i < 7; i++) {
            g.disturb(0, 2);
        }
        for (int i = 0; i < 64; i++) {
            g.feed(-i);
        }
    }

    /** 256 samples in the output: thrice a packet of 16 and four losses, and one packet more, sequences 0 .. 15. */
    static void fullOutput(VoiceGateway g) {
        int[] samples = {1600, -1600, 2, 3, 4, 5, 6, 7, 8, 9, 10, 11, 12, 13, 14, 15};
        for (int i = 0; i < 4; i++) {
            bring(g, 5 * i, 80 * i, false, samples);
            playTimes(g, i < 3 ? 5 : 1);
        }
    }

    /** Leads the sender's coding 2 to an index and tells value and index then; the line is empty afterwards. */
    static int[] leadTo(VoiceGateway g, int index) {
        int[] state = {0, 0};
        int pairs = 0;
        while (state[1] != index) {
            for (int i = 0; i < 2; i++) {
                boolean up = state[1] < index;
                int t = Model.STEPS[state[1]];
                int x = state[0] + (up ? state[0] > 0 ? -t : t : 0);
                state = Model.changed(state, Model.halfByte(state, x));
                g.feed(x);
            }
            pairs++;
            g.send(2, 2, false);
            g.disturb(0, 0);
            if (pairs > 100) {
                throw new IllegalStateException("index " + index + " is not reached");
            }
        }
        return state;
    }

    static void loseLine(VoiceGateway g) {
        for (int i = 0; i < 8; i++) {
            g.disturb(0, 0);
        }
    }

    /** Leaves input and line without anything: any number below 80 is made of these. */
    static void loseInput(VoiceGateway g) {
        loseLine(g);
        for (int n : new int[] {16, 16, 16, 16, 8, 4, 2, 1}) {
            if (g.send(3, n, false) > 0) {
                g.disturb(0, 0);
            }
        }
    }

    static void loseOutput(VoiceGateway g) {
        loseInput(g);
        for (int i = 0; i < 4; i++) {
            g.pass(Math.min(64, g.output()));
            loseInput(g);
        }
    }

    static String bytes(VoiceGateway g, int k) {
        StringBuilder text = new StringBuilder();
        int b = g.byteAt(k, 0);
        for (int i = 1; b != VoiceGateway.BAD; i++) {
            text.append(i == 1 ? "" : " ").append(b);
            b = g.byteAt(k, i);
        }
        return text.toString();
    }

    static String lineOf(VoiceGateway g) {
        StringBuilder text = new StringBuilder();
        int n = g.line();
        for (int k = 0; k < n; k++) {
            text.append("[").append(bytes(g, k)).append("]");
        }
        return text.toString();
    }

    static String outputOf(VoiceGateway g) {
        StringBuilder text = new StringBuilder();
        int n = g.output();
        for (int i = 0; i < n; i++) {
            text.append(i == 0 ? "" : " ").append(g.sample(i));
        }
        return text.toString();
    }

    static String figures(VoiceGateway g) {
        StringBuilder text = new StringBuilder();
        for (int k = 0; k <= 12; k++) {
            text.append(k == 0 ? "" : " ").append(g.figure(k));
        }
        return text.toString();
    }
}
