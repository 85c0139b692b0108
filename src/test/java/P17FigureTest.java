/** Promise 17: figure; every figure gets a number of its own, so that none can stand for another. */
public final class P17FigureTest {
    private static final Check CHECK = new Check();

    public static void main(String[] args) {
        CHECK.sentence("k = 0: the state of the buffer (0 rest, 1 waits, 2 plays)", P17FigureTest::states);
        CHECK.sentence("1: how many packets it has", P17FigureTest::packets);
        CHECK.sentence("2: its next sequence (-1 at rest)", P17FigureTest::nextSequence);
        CHECK.sentence("3 .. 7: how many packets were BAD, LATE, FAR, TWICE, OTHER", P17FigureTest::counts);
        CHECK.sentence("... also when it came to rest", P17FigureTest::countsOverRest);
        CHECK.sentence("8: how many were lost (also that by which it came to rest)", P17FigureTest::lost);
        CHECK.sentence("9: jumps", P17FigureTest::jumps);
        CHECK.sentence("10: the value, 11: the index of the sender's coding 2", P17FigureTest::valueAndIndex);
        CHECK.sentence("12: the next sequence of the sender", P17FigureTest::senderSequence);
        CHECK.sentence("BAD when k is none of these", P17FigureTest::noneOfThese);
        CHECK.sentence("... and nothing is changed by asking", P17FigureTest::changesNothing);
        CHECK.end();
    }

    private static void receiveFrom(VoiceGateway g, int sequence, int source, int times) {
        for (int i = 0; i < times; i++) {
            g.begin(sequence, 0, source);
            Calls.sendOne(g, 3, 1);
            g.receive();
        }
    }

    private static void counts() {
        VoiceGateway g = new VoiceGateway();
        receiveFrom(g, 40, 1, 1);
        for (int i = 0; i < 2; i++) {
            Calls.sendOne(g, 3, 1);
            g.disturb(0, 3);
            g.receive();
        }
        receiveFrom(g, 39, 1, 3);
        receiveFrom(g, 48, 1, 4);
        receiveFrom(g, 40, 1, 5);
        receiveFrom(g, 40, 2, 6);
        receiveFrom(g, 46, 1, 1);
        receiveFrom(g, 47, 1, 1);
        CHECK.due("figures", Calls.figures(g), "1 3 40 2 3 4 5 6 0 0 0 0 48");
        g.play();
        g.play();
        g.play();
        receiveFrom(g, 43, 1, 1);
        g.play();
        CHECK.due("figures", Calls.figures(g), "2 2 44 2 3 4 5 6 2 1 0 0 44");
        g.play();
        g.play();
        g.play();
        CHECK.due("a jump behind losses", g.figure(9), 2);
        Calls.sendOne(g, 2, 100, -200);
        CHECK.due("figures", Calls.figures(g), "2 1 47 2 3 4 5 6 4 2 -19 16 45");
        g.receive();
        CHECK.due("late", g.figure(4), 4);
    }

    private static void states() {
        VoiceGateway g = new VoiceGateway();
        CHECK.due("rest", g.figure(0), 0);
        CHECK.due("next at rest", g.figure(2), -1);
        receiveFrom(g, 0, 1, 1);
        CHECK.due("waits", g.figure(0), 1);
        CHECK.due("next", g.figure(2), 0);
        g.play();
        CHECK.due("plays", g.figure(0), 2);
        for (int i = 0; i < 4; i++) {
            g.play();
        }
        CHECK.due("plays over losses", g.figure(0), 2);
        CHECK.due("lost", g.figure(8), 4);
        g.play();
        CHECK.due("rest", g.figure(0), 0);
        CHECK.due("next at rest", g.figure(2), -1);
        CHECK.due("lost, that one too", g.figure(8), 5);
        g.play();
        CHECK.due("nothing is lost at rest", g.figure(8), 5);
    }

    private static void packets() {
        VoiceGateway g = new VoiceGateway();
        CHECK.due("at first", g.figure(1), 0);
        for (int i = 0; i < 8; i++) {
            receiveFrom(g, 65533 + i < 65536 ? 65533 + i : i - 3, 1, 1);
            CHECK.due("with " + (i + 1), g.figure(1), i + 1);
        }
        receiveFrom(g, 65533, 1, 1);
        CHECK.due("a refused one is none", g.figure(1), 8);
        for (int i = 7; i >= 0; i--) {
            g.play();
            CHECK.due("with " + i, g.figure(1), i);
        }
        g.play();
        CHECK.due("a lost one is none", g.figure(1), 0);
    }

    private static void nextSequence() {
        VoiceGateway g = new VoiceGateway();
        CHECK.due("at rest", g.figure(2), -1);
        receiveFrom(g, 65535, 1, 1);
        CHECK.due("65535", g.figure(2), 65535);
        g.play();
        CHECK.due("0", g.figure(2), 0);
        for (int i = 1; i <= 4; i++) {
            g.play();
            CHECK.due("behind a loss", g.figure(2), i);
        }
        g.play();
        CHECK.due("at rest again", g.figure(2), -1);
    }

    private static void countsOverRest() {
        VoiceGateway g = new VoiceGateway();
        receiveFrom(g, 40, 1, 1);
        receiveFrom(g, 39, 1, 1);
        receiveFrom(g, 48, 1, 2);
        receiveFrom(g, 40, 1, 3);
        receiveFrom(g, 40, 2, 4);
        Calls.playTimes(g, 6);
        CHECK.due("figures", Calls.figures(g), "0 0 -1 0 1 2 3 4 5 0 0 0 41");
        receiveFrom(g, 7, 9, 2);
        CHECK.due("figures", Calls.figures(g), "1 1 7 0 1 2 4 4 5 0 0 0 8");
    }

    private static void lost() {
        VoiceGateway g = new VoiceGateway();
        receiveFrom(g, 0, 1, 1);
        g.play();
        for (int i = 1; i <= 4; i++) {
            g.play();
            CHECK.due("losses", g.figure(8), i);
        }
        g.play();
        CHECK.due("that by which it came to rest", g.figure(8), 5);
        g.play();
        CHECK.due("none at rest", g.figure(8), 5);
        receiveFrom(g, 0, 1, 1);
        Calls.playTimes(g, 2);
        CHECK.due("it goes on", g.figure(8), 6);
    }

    private static void jumps() {
        VoiceGateway g = new VoiceGateway();
        for (int i = 0; i < 4; i++) {
            Calls.bring(g, i, 0, false, 1);
            g.play();
            CHECK.due("jumps", g.figure(9), i);
        }
        Calls.playTimes(g, 5);
        Calls.bring(g, 0, 77, false, 1);
        g.play();
        CHECK.due("none by a new run", g.figure(9), 3);
    }

    private static void valueAndIndex() {
        VoiceGateway g = new VoiceGateway();
        CHECK.due("value at first", g.figure(10), 0);
        CHECK.due("index at first", g.figure(11), 0);
        Calls.sendOne(g, 2, 100, -200);
        CHECK.due("value", g.figure(10), -19);
        CHECK.due("index", g.figure(11), 16);
        g.receive();
        g.play();
        CHECK.due("the value by playing", g.figure(10), -19);
        CHECK.due("the index by playing", g.figure(11), 16);
    }

    private static void senderSequence() {
        VoiceGateway g = new VoiceGateway();
        CHECK.due("at first", g.figure(12), 0);
        g.begin(65535, 0, 0);
        CHECK.due("65535", g.figure(12), 65535);
        Calls.sendOne(g, 0, 1);
        CHECK.due("0", g.figure(12), 0);
        g.send(0, 1, false);
        CHECK.due("behind a refused send", g.figure(12), 0);
        Calls.sendOne(g, 0, 1);
        CHECK.due("1", g.figure(12), 1);
    }

    private static void noneOfThese() {
        for (int k : new int[] {-1, 13, 14, 255, 256, Integer.MIN_VALUE, Integer.MAX_VALUE}) {
            CHECK.due("figure(" + k + ")", new VoiceGateway().figure(k), VoiceGateway.BAD);
            Twins.due(CHECK, "figure(" + k + ")", VoiceGateway.BAD, Calls::busy, g -> g.figure(k));
        }
    }

    private static void changesNothing() {
        int[] busy = {2, 1, 65535, 0, 0, 0, 0, 0, 1, 0, -19, 16, 3};
        for (int k = 0; k <= 12; k++) {
            int asked = k;
            Twins.due(CHECK, "figure(" + k + ")", busy[k], Calls::busy, g -> g.figure(asked));
        }
    }
}
