import java.util.Random;

/** Long runs of calls, the same ones each time, compared with the model call by call. */
public final class LongRunsTest {
    private static final int RUNS = 4000;
    private static final int CALLS = 512;
    private static final Check CHECK = new Check();

    private static Random random;
    private static VoiceGateway g;
    private static Model m;
    private static int loudness;
    private static int[] weights;

    public static void main(String[] args) {
        for (int run = 0; run < RUNS; run++) {
            random = new Random(run);
            g = new VoiceGateway();
            m = new Model();
            loudness = 1 << (1 + random.nextInt(15));
            weights = weightsOf(run % 4);
            for (int call = 0; call < CALLS; call++) {
                oneCall("run " + run + ", call " + call + ": ");
            }
        }
        CHECK.end();
    }

    /** By kind of run: a mixture, a good line, a bad line, an output that gets full. */
    private static int[] weightsOf(int kind) {
        // feed begin send disturb poke receive prefill play pass look
        int[][] all = {
            {10, 1, 5, 2, 2, 5, 1, 5, 2, 6},
            {30, 0, 8, 0, 0, 8, 0, 8, 2, 3},
            {20, 1, 8, 4, 3, 8, 1, 8, 2, 3},
            {30, 0, 8, 1, 0, 8, 0, 12, 0, 2},
        };
        return all[kind];
    }

    private static int choose() {
        int sum = 0;
        for (int w : weights) {
            sum += w;
        }
        int left = random.nextInt(sum);
        int i = 0;
        while (left >= weights[i]) {
            left -= weights[i];
            i++;
        }
        return i;
    }

    private static int mostly(int bound) {
        return random.nextInt(40) == 0 ? anyInt() : random.nextInt(bound);
    }

    private static int anyInt() {
        int[] edges = {-1, -2, 0, 1, 16, 17, 64, 65, 255, 256, 32767, 32768, -32768, -32769, 65535, 65536,
            Integer.MAX_VALUE, Integer.MIN_VALUE};
        return random.nextInt(4) == 0 ? random.nextInt() : edges[random.nextInt(edges.length)];
    }

    private static int sound() {
        return random.nextInt(30) == 0 ? anyInt() : random.nextInt(2 * loudness) - loudness;
    }

    private static void oneCall(String where) {
        switch (choose()) {
            case 0:
                int x = sound();
                CHECK.due(where + "feed(" + x + ")", g.feed(x), m.feed(x));
                break;
            case 1:
                begin(where);
                break;
            case 2:
                int coding = mostly(4);
                int n = random.nextInt(10) == 0 ? mostly(18) : 2 * random.nextInt(4) + 2;
                boolean mark = random.nextInt(6) == 0;
                CHECK.due(where + "send(" + coding + ", " + n + ", " + mark + ")",
                        g.send(coding, n, mark), m.send(coding, n, mark));
                break;
            case 3:
                int k = mostly(8);
                int how = mostly(4);
                CHECK.due(where + "disturb(" + k + ", " + how + ")", g.disturb(k, how), m.disturb(k, how));
                break;
            case 4:
                poke(where);
                break;
            case 5:
                CHECK.due(where + "receive()", g.receive(), m.receive());
                break;
            case 6:
                int p = mostly(6);
                CHECK.due(where + "prefill(" + p + ")", g.prefill(p), m.prefill(p));
                break;
            case 7:
                CHECK.due(where + "play()", g.play(), m.play());
                break;
            case 8:
                int passed = mostly(70);
                CHECK.due(where + "pass(" + passed + ")", g.pass(passed), m.pass(passed));
                break;
            default:
                look(where);
                break;
        }
    }

    private static void begin(String where) {
        int near = Math.floorMod(m.figure(12) + random.nextInt(20) - 10, 65536);
        int sequence = random.nextInt(4) == 0 ? anyInt() : near;
        int time = random.nextInt(3) == 0 ? anyInt() : random.nextInt(100);
        int source = random.nextInt(4) == 0 ? anyInt() : 0;
        CHECK.due(where + "begin(" + sequence + ", " + time + ", " + source + ")",
                g.begin(sequence, time, source), m.begin(sequence, time, source));
    }

    private static void poke(String where) {
        int[] bytes = {0, 8, 5, 11, 128, 133, 136, 139, 88, 89, 255};
        int k = mostly(8);
        int i = random.nextInt(3) == 0 ? 1 : mostly(20);
        int b = random.nextInt(3) == 0 ? mostly(256) : bytes[random.nextInt(bytes.length)];
        CHECK.due(where + "poke(" + k + ", " + i + ", " + b + ")", g.poke(k, i, b), m.poke(k, i, b));
    }

    private static void look(String where) {
        int i = mostly(300);
        int k = mostly(13);
        switch (random.nextInt(7)) {
            case 0:
                CHECK.due(where + "figure(" + k + ")", g.figure(k), m.figure(k));
                break;
            case 1:
                CHECK.due(where + "line()", g.line(), m.line());
                break;
            case 2:
                CHECK.due(where + "byteAt(" + k + ", " + i % 46 + ")", g.byteAt(k, i % 46), m.byteAt(k, i % 46));
                break;
            case 3:
                CHECK.due(where + "output()", g.output(), m.output());
                break;
            case 4:
                CHECK.due(where + "sample(" + i + ")", g.sample(i), m.sample(i));
                break;
            case 5:
                CHECK.due(where + "compress(" + k + ", " + i + ")", g.compress(k, i), m.compress(k, i));
                break;
            default:
                CHECK.due(where + "expand(" + k % 2 + ", " + i + ")", g.expand(k % 2, i), m.expand(k % 2, i));
                break;
        }
    }
}
