/** Promise 17: figure; every figure gets a number of its own, so that none can stand for another. */
public final class P17FigureTest {
    private static final Check CHECK = new Check();

    public static void main(String[] args) {
        counts();
        states();
        wrongInputs();
        CHECK.end();
    }

    private static void receiveFrom(VoiceGateway g, int sequence, int source, int times) {
        for (int i = 0; i < times; i++) {
            g.begin(sequence, 0, source);
            Calls.sendOne(g, 3, 1);
            g.receive();
        }
    }

    private static void counts() {
        VoiceGateway g = new VoiceGateway();
        receiveFrom(g, 40, 1, 1);
        for (int i = 0; i < 2; i++) {
            Calls.sendOne(g, 3, 1);
            g.disturb(0, 3);
            g.receive();
        }
        receiveFrom(g, 39, 1, 3);
        receiveFrom(g, 48, 1, 4);
        receiveFrom(g, 40, 1, 5);
        receiveFrom(g, 40, 2, 6);
        receiveFrom(g, 46, 1, 1);
        receiveFrom(g, 47, 1, 1);
        CHECK.due("figures", Calls.figures(g), "1 3 40 2 3 4 5 6 0 0 0 0 48");
        g.play();
        g.play();
        g.play();
        receiveFrom(g, 43, 1, 1);
        g.play();
        CHECK.due("figures", Calls.figures(g), "2 2 44 2 3 4 5 6 2 1 0 0 44");
        g.play();
        g.play();
        g.play();
        CHECK.due("a jump behind losses", g.figure(9), 2);
        Calls.sendOne(g, 2, 100, -200);
        CHECK.due("figures", Calls.figures(g), "2 1 47 2 3 4 5 6 4 2 -19 16 45");
        g.receive();
        CHECK.due("late", g.figure(4), 4);
    }

    private static void states() {
        VoiceGateway g = new VoiceGateway();
        CHECK.due("rest", g.figure(0), 0);
        CHECK.due("next at rest", g.figure(2), -1);
        receiveFrom(g, 0, 1, 1);
        CHECK.due("waits", g.figure(0), 1);
        CHECK.due("next", g.figure(2), 0);
        g.play();
        CHECK.due("plays", g.figure(0), 2);
        for (int i = 0; i < 4; i++) {
            g.play();
        }
        CHECK.due("plays over losses", g.figure(0), 2);
        CHECK.due("lost", g.figure(8), 4);
        g.play();
        CHECK.due("rest", g.figure(0), 0);
        CHECK.due("next at rest", g.figure(2), -1);
        CHECK.due("lost, that one too", g.figure(8), 5);
        g.play();
        CHECK.due("nothing is lost at rest", g.figure(8), 5);
    }

    private static void wrongInputs() {
        for (int k : new int[] {-1, 13, 14, Integer.MIN_VALUE, Integer.MAX_VALUE}) {
            CHECK.due("figure(" + k + ")", new VoiceGateway().figure(k), VoiceGateway.BAD);
        }
    }
}
