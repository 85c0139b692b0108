/** Runs of calls that many tests need. */
final class Calls {
    private Calls() {
    }

    static void feedAll(VoiceGateway g, int... samples) {
        for (int x : samples) {
            if (!g.feed(x)) {
                throw new IllegalStateException("feed(" + x + ") was refused");
            }
        }
    }

    /** Puts n packets of one sample each with coding 3 on the line, from the given sequence on. */
    static void sendRun(VoiceGateway g, int sequence, int n) {
        g.begin(sequence, 0, 1);
        for (int i = 0; i < n; i++) {
            sendOne(g, 3, 100 + i);
        }
    }

    static void sendOne(VoiceGateway g, int coding, int... samples) {
        sendMarked(g, coding, false, samples);
    }

    static void sendMarked(VoiceGateway g, int coding, boolean mark, int... samples) {
        feedAll(g, samples);
        int length = g.send(coding, samples.length, mark);
        if (length < 0) {
            throw new IllegalStateException("send answered " + length);
        }
    }

    static void receiveAll(VoiceGateway g) {
        int n = g.line();
        for (int i = 0; i < n; i++) {
            g.receive();
        }
    }

    /** Sends a packet with its own sequence and time, and receives it. */
    static int bring(VoiceGateway g, int sequence, int time, boolean mark, int... samples) {
        g.begin(sequence, time, 1);
        sendMarked(g, 3, mark, samples);
        return g.receive();
    }

    static String bytes(VoiceGateway g, int k) {
        StringBuilder text = new StringBuilder();
        for (int i = 0; g.byteAt(k, i) != VoiceGateway.BAD; i++) {
            text.append(i == 0 ? "" : " ").append(g.byteAt(k, i));
        }
        return text.toString();
    }

    static String outputOf(VoiceGateway g) {
        StringBuilder text = new StringBuilder();
        for (int i = 0; i < g.output(); i++) {
            text.append(i == 0 ? "" : " ").append(g.sample(i));
        }
        return text.toString();
    }

    static String figures(VoiceGateway g) {
        StringBuilder text = new StringBuilder();
        for (int k = 0; k <= 12; k++) {
            text.append(k == 0 ? "" : " ").append(g.figure(k));
        }
        return text.toString();
    }

    /** All that can be asked: figures, line with its bytes, output with its samples. */
    static String state(VoiceGateway g) {
        StringBuilder text = new StringBuilder("figures " + figures(g) + "; line " + g.line());
        for (int k = 0; k < g.line(); k++) {
            text.append(" [").append(bytes(g, k)).append("]");
        }
        return text.append("; output ").append(g.output()).append(" [").append(outputOf(g)).append("]").toString();
    }
}
