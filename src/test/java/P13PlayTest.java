/** Promise 13: play. */
public final class P13PlayTest {
    private static final Check CHECK = new Check();

    public static void main(String[] args) {
        expandsAllCodings();
        expandsCodingTwoByItsHead();
        expandsEveryCodeOfEveryIndex();
        putsInOrder();
        concealsTowardsZero();
        concealsAfterEveryCoding();
        concealsAgainFromTheNewLastOnes();
        comesToRest();
        dropsItsPackets();
        countsJumps();
        expectsOverLosses();
        expectsOverTheEnd();
        refusesAsFull();
        refusesAsFullWhileItWaits();
        refusesLossesAsFull();
        sequencesWrap();
        CHECK.end();
    }

    private static void expandsAllCodings() {
        VoiceGateway g = new VoiceGateway();
        Calls.sendOne(g, 0, 0, -1, 300);
        Calls.sendOne(g, 1, 0, -300, 300);
        Calls.sendOne(g, 2, 1000, -1000, 32767, -32768);
        Calls.sendOne(g, 3, -32768, 32767, -1, 258);
        Calls.receiveAll(g);
        CHECK.due("coding 0", g.play(), 3);
        CHECK.due("coding 1", g.play(), 3);
        CHECK.due("coding 2", g.play(), 4);
        CHECK.due("coding 3", g.play(), 4);
        CHECK.due("output", Calls.outputOf(g), "8 -8 296 0 -308 308 11 -19 44 -92 -32768 32767 -1 258");
        CHECK.due("figures", Calls.figures(g), "2 0 4 0 0 0 0 0 0 0 -92 32 4");
    }

    private static void expandsCodingTwoByItsHead() {
        VoiceGateway g = new VoiceGateway();
        Calls.sendOne(g, 2, 1000, -1000, 32767, -32768);
        Calls.sendOne(g, 2, 0, 7);
        g.disturb(0, 0);
        g.receive();
        CHECK.due("play()", g.play(), 2);
        CHECK.due("the packet before is not needed", Calls.outputOf(g), "5 22");

        VoiceGateway poked = new VoiceGateway();
        Calls.sendOne(poked, 2, 0, 0, 0, 0);
        int[] body = {127, 240, 88, 0, 0x7f, 0x90};
        for (int i = 0; i < body.length; i++) {
            poked.poke(0, 12 + i, body[i]);
        }
        poked.receive();
        poked.play();
        CHECK.due("brought back at both ends", Calls.outputOf(poked), "32767 -28669 -32768 -29044");
        CHECK.due("the sender's own is not touched", poked.figure(11), 0);
    }

    private static void expandsEveryCodeOfEveryIndex() {
        for (int index = 0; index < 89; index++) {
            for (int code = 0; code < 16; code++) {
                VoiceGateway g = new VoiceGateway();
                Calls.sendOne(g, 2, 0, 0);
                int[] first = Model.changed(new int[] {-300, index}, code);
                int[] second = Model.changed(first, 15 - code);
                int[] body = {254, 212, index, 0, 16 * code + 15 - code};
                for (int i = 0; i < body.length; i++) {
                    g.poke(0, 12 + i, body[i]);
                }
                g.receive();
                g.play();
                CHECK.due("index " + index + ", code " + code, Calls.outputOf(g), first[0] + " " + second[0]);
            }
        }
    }

    private static void putsInOrder() {
        VoiceGateway g = new VoiceGateway();
        Calls.bring(g, 5, 0, false, 50);
        Calls.bring(g, 8, 0, false, 80);
        Calls.bring(g, 6, 0, false, 60);
        Calls.bring(g, 7, 0, false, 70);
        for (int i = 0; i < 4; i++) {
            CHECK.due("next", g.figure(2), 5 + i);
            CHECK.due("packets", g.figure(1), 4 - i);
            CHECK.due("play()", g.play(), 1);
        }
        CHECK.due("output", Calls.outputOf(g), "50 60 70 80");
        CHECK.due("none is left", g.figure(1), 0);
        CHECK.due("it goes on playing", g.figure(0), 2);
    }

    private static void concealsTowardsZero() {
        VoiceGateway g = new VoiceGateway();
        Calls.bring(g, 0, 0, false, -1, 1, -3, 33, -33, 32767, -32768);
        for (int i = 0; i < 5; i++) {
            CHECK.due("play()", g.play(), 7);
        }
        CHECK.due("output", Calls.outputOf(g), "-1 1 -3 33 -33 32767 -32768"
                + " 0 0 -1 16 -16 16383 -16384"
                + " 0 0 0 8 -8 8191 -8192"
                + " 0 0 0 4 -4 4095 -4096"
                + " 0 0 0 2 -2 2047 -2048");
        CHECK.due("figures", Calls.figures(g), "2 0 5 0 0 0 0 0 4 0 0 0 1");
    }

    private static void concealsAfterEveryCoding() {
        for (int coding = 0; coding < 4; coding++) {
            VoiceGateway g = new VoiceGateway();
            Calls.sendOne(g, coding, 500, -900, 7000, -1);
            g.receive();
            CHECK.due("a packet of coding " + coding, g.play(), 4);
            CHECK.due("a loss", g.play(), 4);
            for (int i = 0; i < 4; i++) {
                CHECK.due("sample " + i + " by half", g.sample(4 + i), g.sample(i) / 2);
            }
        }
    }

    private static void concealsAgainFromTheNewLastOnes() {
        VoiceGateway g = new VoiceGateway();
        Calls.bring(g, 0, 0, false, 1000, 2000);
        g.play();
        g.play();
        g.play();
        Calls.bring(g, 3, 6, false, 400);
        CHECK.due("there again", g.play(), 1);
        for (int i = 0; i < 4; i++) {
            CHECK.due("lost again", g.play(), 1);
        }
        CHECK.due("output", Calls.outputOf(g), "1000 2000 500 1000 250 500 400 200 100 50 25");
        CHECK.due("all six were lost", g.figure(8), 6);
        CHECK.due("now it comes to rest", g.play(), 0);
    }

    private static void comesToRest() {
        VoiceGateway g = new VoiceGateway();
        Calls.bring(g, 9, 0, false, 16);
        for (int i = 0; i < 5; i++) {
            g.play();
        }
        CHECK.due("next", g.figure(2), 14);
        CHECK.due("the fifth loss", g.play(), 0);
        CHECK.due("figures", Calls.figures(g), "0 0 -1 0 0 0 0 0 5 0 0 0 10");
        CHECK.due("output", Calls.outputOf(g), "16 8 4 2 1");
        CHECK.due("at rest", g.play(), VoiceGateway.EMPTY);
        CHECK.due("a new run", Calls.bring(g, 2, 77, false, 64), 0);
        CHECK.due("it waits", g.figure(0), 1);
        CHECK.due("its first packet", g.play(), 1);
        CHECK.due("has no jump", g.figure(9), 0);
        for (int i = 0; i < 4; i++) {
            CHECK.due("losses are counted anew", g.play(), 1);
        }
        CHECK.due("until the fifth", g.play(), 0);
        CHECK.due("output", Calls.outputOf(g), "16 8 4 2 1 64 32 16 8 4");
        CHECK.due("lost in all", g.figure(8), 10);
    }

    private static void dropsItsPackets() {
        for (int start = 0; start < 8; start++) {
            VoiceGateway g = new VoiceGateway();
            Calls.bring(g, start, 0, false, 16);
            Calls.bring(g, start + 6, 0, false, 6);
            Calls.bring(g, start + 7, 0, false, 7);
            for (int i = 0; i < 5; i++) {
                g.play();
            }
            CHECK.due("both are there", g.figure(1), 2);
            CHECK.due("the fifth loss", g.play(), 0);
            CHECK.due("none is there", g.figure(1), 0);
            CHECK.due("at rest", g.play(), VoiceGateway.EMPTY);
            CHECK.due("a new run", Calls.bring(g, start + 5, 0, false, 5), 0);
            CHECK.due("a dropped one may come again", Calls.bring(g, start + 6, 1, false, 66), 1);
            g.play();
            g.play();
            CHECK.due("and is played", g.sample(6), 66);
            g.play();
            CHECK.due("the other is not", g.sample(7), 33);
        }
    }

    private static void countsJumps() {
        VoiceGateway g = new VoiceGateway();
        dueJumps(g, 0, 1000, false, 0);
        dueJumps(g, 1, 1002, false, 0);
        dueJumps(g, 2, 1005, false, 1);
        dueJumps(g, 3, 1007, false, 1);
        dueJumps(g, 4, 1008, false, 2);
        dueJumps(g, 5, 5000, true, 2);
        dueJumps(g, 6, 5002, false, 2);
        dueJumps(g, 7, 5004, true, 2);
        dueJumps(g, 8, 5006 + (1 << 24), false, 3);
        dueJumps(g, 9, -5, false, 4);
        dueJumps(g, 10, -3, false, 4);
    }

    private static void dueJumps(VoiceGateway g, int sequence, int time, boolean mark, int want) {
        Calls.bring(g, sequence, time, mark, 1, 2);
        CHECK.due("play()", g.play(), 2);
        CHECK.due("jumps with sequence " + sequence, g.figure(9), want);
    }

    private static void expectsOverLosses() {
        VoiceGateway g = new VoiceGateway();
        Calls.bring(g, 0, 100, false, 1, 2, 3);
        Calls.bring(g, 3, 109, false, 1, 2, 3);
        Calls.bring(g, 5, 116, false, 1);
        for (int i = 0; i < 4; i++) {
            g.play();
        }
        CHECK.due("two losses of three samples", g.figure(9), 0);
        g.play();
        g.play();
        CHECK.due("a loss of three samples, not four", g.figure(9), 1);
    }

    private static void expectsOverTheEnd() {
        VoiceGateway g = new VoiceGateway();
        dueJumps(g, 0, Integer.MAX_VALUE, false, 0);
        dueJumps(g, 1, Integer.MIN_VALUE + 1, false, 0);
        dueJumps(g, 2, -2, true, 0);
        dueJumps(g, 3, 0, false, 0);
    }

    /** Plays packets of 16 samples until the output has 240, leaving the given ones in the buffer. */
    private static VoiceGateway nearlyFull(int... waiting) {
        VoiceGateway g = new VoiceGateway();
        for (int i = 0; i < 15; i++) {
            Calls.bring(g, i, 16 * i, false, new int[16]);
            g.play();
        }
        for (int i = 0; i < waiting.length; i++) {
            Calls.bring(g, 15 + i, 7000, false, new int[waiting[i]]);
        }
        return g;
    }

    private static void refusesAsFull() {
        VoiceGateway g = nearlyFull(16, 1);
        CHECK.due("output()", g.output(), 240);
        CHECK.due("up to 256", g.play(), 16);
        String before = Calls.figures(g);
        CHECK.due("one more", g.play(), VoiceGateway.FULL);
        CHECK.due("nothing has changed", Calls.figures(g), before);
        CHECK.due("nor the output", g.output(), 256);
        g.pass(1);
        CHECK.due("with room", g.play(), 1);
        CHECK.due("its jump is counted once", g.figure(9), 2);
        VoiceGateway small = nearlyFull(1, 16);
        small.play();
        CHECK.due("241 and 16", small.play(), VoiceGateway.FULL);
    }

    private static void refusesAsFullWhileItWaits() {
        VoiceGateway g = nearlyFull();
        Calls.bring(g, 15, 240, false, new int[16]);
        g.play();
        CHECK.due("output()", g.output(), 256);
        g.pass(64);
        for (int i = 0; i < 4; i++) {
            CHECK.due("a loss", g.play(), 16);
        }
        CHECK.due("the fifth needs no room", g.play(), 0);
        CHECK.due("at rest, EMPTY before FULL", g.play(), VoiceGateway.EMPTY);
        for (int i = 0; i < 4; i++) {
            g.send(3, 16, false);
            g.disturb(0, 0);
        }
        CHECK.due("a new run", Calls.bring(g, 99, 0, false, 5), 0);
        CHECK.due("no room", g.play(), VoiceGateway.FULL);
        CHECK.due("it still waits", g.figure(0), 1);
        g.prefill(2);
        CHECK.due("EMPTY before FULL", g.play(), VoiceGateway.EMPTY);
        g.prefill(1);
        g.pass(1);
        CHECK.due("with room", g.play(), 1);
        CHECK.due("it plays", g.figure(0), 2);
        CHECK.due("no jump", g.figure(9), 0);
    }

    private static void refusesLossesAsFull() {
        VoiceGateway g = nearlyFull(9);
        g.play();
        String before = Calls.figures(g);
        CHECK.due("249 and 9", g.play(), VoiceGateway.FULL);
        CHECK.due("nothing has changed", Calls.figures(g), before);
        g.pass(2);
        CHECK.due("247 and 9", g.play(), 9);
        CHECK.due("lost", g.figure(8), 1);
        CHECK.due("full again", g.play(), VoiceGateway.FULL);
        CHECK.due("not lost yet", g.figure(8), 1);
        g.pass(27);
        for (int i = 0; i < 3; i++) {
            CHECK.due("a loss", g.play(), 9);
        }
        CHECK.due("full", g.output(), 256);
        CHECK.due("the fifth loss needs no room", g.play(), 0);
        CHECK.due("at rest", g.figure(0), 0);
    }

    private static void sequencesWrap() {
        VoiceGateway g = new VoiceGateway();
        Calls.bring(g, 65534, 0, false, 1);
        Calls.bring(g, 65535, 1, false, 2);
        Calls.bring(g, 1, 3, false, 4);
        g.play();
        CHECK.due("next", g.figure(2), 65535);
        g.play();
        CHECK.due("next", g.figure(2), 0);
        g.play();
        CHECK.due("lost", g.figure(8), 1);
        g.play();
        CHECK.due("output", Calls.outputOf(g), "1 2 1 4");
        VoiceGateway lost = new VoiceGateway();
        Calls.bring(lost, 65534, 0, false, 1);
        lost.play();
        lost.play();
        CHECK.due("a lost 65535", lost.figure(2), 0);
    }
}
