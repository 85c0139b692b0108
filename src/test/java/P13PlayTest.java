import java.util.function.Consumer;

/** Promise 13: play. */
public final class P13PlayTest {
    private static final Check CHECK = new Check();

    public static void main(String[] args) {
        CHECK.sentence("Plays one packet: how many samples are put at the end of the output", P13PlayTest::howMany);
        CHECK.sentence("EMPTY, when the buffer is at rest", P13PlayTest::emptyAtRest);
        CHECK.sentence("EMPTY, when it waits and has fewer packets than the prefill says", P13PlayTest::emptyWhileItWaits);
        CHECK.sentence("If the packet with the next sequence is there, it is taken out", P13PlayTest::putsInOrder);
        CHECK.sentence("... and expanded", P13PlayTest::expandsAllCodings);
        CHECK.sentence("... by its own value and index", P13PlayTest::expandsCodingTwoByItsHead);
        CHECK.sentence("... for every index and code", P13PlayTest::expandsEveryCodeOfEveryIndex);
        CHECK.sentence("its samples are put out, and are the LAST ones", P13PlayTest::theLastOnes);
        CHECK.sentence("If its mark is not set, ..., a JUMP is counted", P13PlayTest::noJumpWithTheMark);
        CHECK.sentence("If ... something was played before in this run (since the buffer was at rest) ... a JUMP",
                P13PlayTest::noJumpAtFirst);
        CHECK.sentence("If ... its time is not what was expected, a JUMP is counted", P13PlayTest::countsJumps);
        CHECK.sentence("expected is its time and its samples' number from now on", P13PlayTest::expectsFromNowOn);
        CHECK.sentence("... wrapping, as times do", P13PlayTest::expectsOverTheEnd);
        CHECK.sentence("Otherwise it is LOST: as many samples as the last ones are put out", P13PlayTest::asManyAsTheLast);
        CHECK.sentence("each of these divided by 2^i, rounded towards 0", P13PlayTest::concealsTowardsZero);
        CHECK.sentence("... behind packets of every coding", P13PlayTest::concealsAfterEveryCoding);
        CHECK.sentence("i being how many were lost one after the other, this one included",
                P13PlayTest::concealsAgainFromTheNewLastOnes);
        CHECK.sentence("the expected time grows by their number", P13PlayTest::expectsOverLosses);
        CHECK.sentence("When i would be 5, nothing is put out instead (the answer is 0), the buffer comes to rest",
                P13PlayTest::comesToRest);
        CHECK.sentence("... and its packets are dropped", P13PlayTest::dropsItsPackets);
        CHECK.sentence("... 5 and not 4 or 6", P13PlayTest::fourLossesAreFine);
        CHECK.sentence("In all cases but the last the next sequence grows by 1 (from 65535 to 0)",
                P13PlayTest::sequencesWrap);
        CHECK.sentence("Refused as FULL, changing nothing, when the output would have more than 256 samples",
                P13PlayTest::refusesAsFull);
        CHECK.sentence("... a packet", P13PlayTest::packetsUpTo256);
        CHECK.sentence("... a loss", P13PlayTest::lossesUpTo256);
        CHECK.sentence("... the first packet of a run", P13PlayTest::refusesAsFullWhileItWaits);
        CHECK.sentence("looked at behind EMPTY", P13PlayTest::emptyBeforeFull);
        CHECK.sentence("for the number of samples that would be put out", P13PlayTest::numberThatWouldBePutOut);
        CHECK.end();
    }

    private static void howMany() {
        for (int n = 1; n <= 16; n++) {
            VoiceGateway g = new VoiceGateway();
            Calls.bring(g, 0, 0, false, 7, 8);
            g.play();
            int[] samples = new int[n];
            samples[n - 1] = n;
            Calls.bring(g, 1, 2, false, samples);
            CHECK.due("play()", g.play(), n);
            CHECK.due("output()", g.output(), 2 + n);
            CHECK.due("the ones before", g.sample(0) + " " + g.sample(1), "7 8");
            CHECK.due("the last one", g.sample(1 + n), n);
        }
    }

    private static void emptyAtRest() {
        Twins.due(CHECK, "play() at first", VoiceGateway.EMPTY, g -> { }, VoiceGateway::play);
        Twins.due(CHECK, "play() with packets on the line", VoiceGateway.EMPTY,
                g -> Calls.sendRun(g, 0, 3), VoiceGateway::play);
        Twins.due(CHECK, "play() at rest again", VoiceGateway.EMPTY, g -> {
            Calls.busy(g);
            Calls.playTimes(g, 7);
            CHECK.due("state", g.figure(0), 0);
        }, VoiceGateway::play);
    }

    private static void emptyWhileItWaits() {
        for (int prefill = 2; prefill <= 4; prefill++) {
            for (int has = 1; has < prefill; has++) {
                int asked = prefill;
                int packets = has;
                Twins.due(CHECK, "play() with " + has + " of " + prefill, VoiceGateway.EMPTY, g -> {
                    g.prefill(asked);
                    Calls.sendRun(g, 65535, packets);
                    Calls.receiveAll(g);
                }, VoiceGateway::play);
            }
        }
        VoiceGateway g = new VoiceGateway();
        g.prefill(2);
        Calls.sendRun(g, 5, 2);
        g.disturb(0, 2);
        g.disturb(1, 1);
        g.receive();
        g.receive();
        CHECK.due("a packet that came twice is one", g.play(), VoiceGateway.EMPTY);
        g.receive();
        CHECK.due("two", g.play(), 1);
        Calls.playTimes(g, 1);
        CHECK.due("what plays needs none", g.play(), 1);
        CHECK.due("which was a loss", g.figure(8), 1);
    }

    private static void theLastOnes() {
        VoiceGateway g = new VoiceGateway();
        Calls.bring(g, 0, 0, false, 64, 640);
        Calls.bring(g, 2, 4, false, 6400, -64, 32);
        Calls.playTimes(g, 4);
        CHECK.due("output", Calls.outputOf(g), "64 640 32 320 6400 -64 32 3200 -32 16");
    }

    private static void noJumpWithTheMark() {
        for (int off : new int[] {-1, 1, 1000, Integer.MIN_VALUE}) {
            VoiceGateway g = new VoiceGateway();
            dueJumps(g, 0, 500, false, 0);
            dueJumps(g, 1, 502 + off, true, 0);
            dueJumps(g, 2, 504 + off, false, 0);
            dueJumps(g, 3, 506, false, 1);
            dueJumps(g, 4, 508, true, 1);
        }
    }

    private static void noJumpAtFirst() {
        for (int time : new int[] {0, 1, -1, 77, Integer.MAX_VALUE, Integer.MIN_VALUE}) {
            VoiceGateway g = new VoiceGateway();
            dueJumps(g, 9, time, false, 0);
            dueJumps(g, 10, time, false, 1);
            Calls.playTimes(g, 5);
            CHECK.due("at rest", g.figure(0), 0);
            dueJumps(g, 11, time + 3, false, 1);
            dueJumps(g, 12, time, false, 2);
        }
        VoiceGateway g = new VoiceGateway();
        dueJumps(g, 0, 0, false, 0);
        g.play();
        dueJumps(g, 2, 5, false, 1);
    }

    private static void expectsFromNowOn() {
        for (int n = 1; n <= 16; n++) {
            for (int off = -1; off <= 1; off++) {
                VoiceGateway g = new VoiceGateway();
                Calls.bring(g, 0, 300, false, new int[n]);
                Calls.bring(g, 1, 300 + n + off, false, 1);
                Calls.playTimes(g, 2);
                CHECK.due(n + " samples, off by " + off, g.figure(9), off == 0 ? 0 : 1);
                Calls.bring(g, 2, 301 + n + off, false, 1);
                g.play();
                CHECK.due("from the jump on", g.figure(9), off == 0 ? 0 : 1);
            }
        }
    }

    private static void asManyAsTheLast() {
        for (int n = 1; n <= 16; n++) {
            VoiceGateway g = new VoiceGateway();
            Calls.bring(g, 0, 0, false, 1, 2, 3);
            Calls.bring(g, 1, 3, false, new int[n]);
            Calls.playTimes(g, 2);
            for (int i = 1; i <= 4; i++) {
                CHECK.due("loss " + i, g.play(), n);
                CHECK.due("output()", g.output(), 3 + n + i * n);
                CHECK.due("lost", g.figure(8), i);
            }
        }
    }

    private static void fourLossesAreFine() {
        for (int losses = 0; losses <= 4; losses++) {
            VoiceGateway g = new VoiceGateway();
            Calls.bring(g, 0, 0, false, 160);
            Calls.bring(g, losses + 1, losses + 1, false, 7);
            Calls.playTimes(g, 1 + losses);
            CHECK.due("it plays", g.figure(0), 2);
            CHECK.due("the packet behind " + losses + " losses", g.play(), 1);
            CHECK.due("its sample", g.sample(losses + 1), 7);
            CHECK.due("without a jump", g.figure(9), 0);
        }
        for (int behind = 6; behind <= 7; behind++) {
            VoiceGateway g = new VoiceGateway();
            Calls.bring(g, 0, 0, false, 160);
            Calls.bring(g, behind, behind, false, 7);
            Calls.playTimes(g, 5);
            CHECK.due("the fifth loss", g.play(), 0);
            CHECK.due("at rest", g.figure(0), 0);
            CHECK.due("and no more", g.play(), VoiceGateway.EMPTY);
        }
    }

    private static void expandsAllCodings() {
        VoiceGateway g = new VoiceGateway();
        Calls.sendOne(g, 0, 0, -1, 300);
        Calls.sendOne(g, 1, 0, -300, 300);
        Calls.sendOne(g, 2, 1000, -1000, 32767, -32768);
        Calls.sendOne(g, 3, -32768, 32767, -1, 258);
        Calls.receiveAll(g);
        CHECK.due("coding 0", g.play(), 3);
        CHECK.due("coding 1", g.play(), 3);
        CHECK.due("coding 2", g.play(), 4);
        CHECK.due("coding 3", g.play(), 4);
        CHECK.due("output", Calls.outputOf(g), "8 -8 296 0 -308 308 11 -19 44 -92 -32768 32767 -1 258");
        CHECK.due("figures", Calls.figures(g), "2 0 4 0 0 0 0 0 0 0 -92 32 4");
    }

    private static void expandsCodingTwoByItsHead() {
        VoiceGateway g = new VoiceGateway();
        Calls.sendOne(g, 2, 1000, -1000, 32767, -32768);
        Calls.sendOne(g, 2, 0, 7);
        g.disturb(0, 0);
        g.receive();
        CHECK.due("play()", g.play(), 2);
        CHECK.due("the packet before is not needed", Calls.outputOf(g), "5 22");

        VoiceGateway poked = new VoiceGateway();
        Calls.sendOne(poked, 2, 0, 0, 0, 0);
        int[] body = {127, 240, 88, 0, 0x7f, 0x90};
        for (int i = 0; i < body.length; i++) {
            poked.poke(0, 12 + i, body[i]);
        }
        poked.receive();
        poked.play();
        CHECK.due("brought back at both ends", Calls.outputOf(poked), "32767 -28669 -32768 -29044");
        CHECK.due("the sender's own is not touched", poked.figure(11), 0);
    }

    private static void expandsEveryCodeOfEveryIndex() {
        for (int index = 0; index < 89; index++) {
            for (int code = 0; code < 16; code++) {
                VoiceGateway g = new VoiceGateway();
                Calls.sendOne(g, 2, 0, 0);
                int[] first = Model.changed(new int[] {-300, index}, code);
                int[] second = Model.changed(first, 15 - code);
                int[] body = {254, 212, index, 0, 16 * code + 15 - code};
                for (int i = 0; i < body.length; i++) {
                    g.poke(0, 12 + i, body[i]);
                }
                g.receive();
                g.play();
                CHECK.due("index " + index + ", code " + code, Calls.outputOf(g), first[0] + " " + second[0]);
                CHECK.due("the sender's own", g.figure(10) + " " + g.figure(11), "0 0");
            }
        }
    }

    private static void putsInOrder() {
        VoiceGateway g = new VoiceGateway();
        Calls.bring(g, 5, 0, false, 50);
        Calls.bring(g, 8, 0, false, 80);
        Calls.bring(g, 6, 0, false, 60);
        Calls.bring(g, 7, 0, false, 70);
        for (int i = 0; i < 4; i++) {
            CHECK.due("next", g.figure(2), 5 + i);
            CHECK.due("packets", g.figure(1), 4 - i);
            CHECK.due("play()", g.play(), 1);
        }
        CHECK.due("output", Calls.outputOf(g), "50 60 70 80");
        CHECK.due("none is left", g.figure(1), 0);
        CHECK.due("it goes on playing", g.figure(0), 2);
    }

    private static void concealsTowardsZero() {
        VoiceGateway g = new VoiceGateway();
        Calls.bring(g, 0, 0, false, -1, 1, -3, 33, -33, 32767, -32768);
        for (int i = 0; i < 5; i++) {
            CHECK.due("play()", g.play(), 7);
        }
        CHECK.due("output", Calls.outputOf(g), "-1 1 -3 33 -33 32767 -32768"
                + " 0 0 -1 16 -16 16383 -16384"
                + " 0 0 0 8 -8 8191 -8192"
                + " 0 0 0 4 -4 4095 -4096"
                + " 0 0 0 2 -2 2047 -2048");
        CHECK.due("figures", Calls.figures(g), "2 0 5 0 0 0 0 0 4 0 0 0 1");
    }

    private static void concealsAfterEveryCoding() {
        for (int coding = 0; coding < 4; coding++) {
            VoiceGateway g = new VoiceGateway();
            Calls.sendOne(g, coding, 500, -900, 7000, -1);
            g.receive();
            CHECK.due("a packet of coding " + coding, g.play(), 4);
            CHECK.due("a loss", g.play(), 4);
            for (int i = 0; i < 4; i++) {
                CHECK.due("sample " + i + " by half", g.sample(4 + i), g.sample(i) / 2);
            }
        }
    }

    private static void concealsAgainFromTheNewLastOnes() {
        VoiceGateway g = new VoiceGateway();
        Calls.bring(g, 0, 0, false, 1000, 2000);
        g.play();
        g.play();
        g.play();
        Calls.bring(g, 3, 6, false, 400);
        CHECK.due("there again", g.play(), 1);
        for (int i = 0; i < 4; i++) {
            CHECK.due("lost again", g.play(), 1);
        }
        CHECK.due("output", Calls.outputOf(g), "1000 2000 500 1000 250 500 400 200 100 50 25");
        CHECK.due("all six were lost", g.figure(8), 6);
        CHECK.due("now it comes to rest", g.play(), 0);
    }

    private static void comesToRest() {
        VoiceGateway g = new VoiceGateway();
        Calls.bring(g, 9, 0, false, 16);
        for (int i = 0; i < 5; i++) {
            g.play();
        }
        CHECK.due("next", g.figure(2), 14);
        CHECK.due("the fifth loss", g.play(), 0);
        CHECK.due("figures", Calls.figures(g), "0 0 -1 0 0 0 0 0 5 0 0 0 10");
        CHECK.due("output", Calls.outputOf(g), "16 8 4 2 1");
        CHECK.due("at rest", g.play(), VoiceGateway.EMPTY);
        CHECK.due("a new run", Calls.bring(g, 2, 77, false, 64), 0);
        CHECK.due("it waits", g.figure(0), 1);
        CHECK.due("its first packet", g.play(), 1);
        CHECK.due("has no jump", g.figure(9), 0);
        for (int i = 0; i < 4; i++) {
            CHECK.due("losses are counted anew", g.play(), 1);
        }
        CHECK.due("until the fifth", g.play(), 0);
        CHECK.due("output", Calls.outputOf(g), "16 8 4 2 1 64 32 16 8 4");
        CHECK.due("lost in all", g.figure(8), 10);
    }

    private static void dropsItsPackets() {
        for (int start = 0; start < 8; start++) {
            VoiceGateway g = new VoiceGateway();
            Calls.bring(g, start, 0, false, 16);
            Calls.bring(g, start + 6, 0, false, 6);
            Calls.bring(g, start + 7, 0, false, 7);
            for (int i = 0; i < 5; i++) {
                g.play();
            }
            CHECK.due("both are there", g.figure(1), 2);
            CHECK.due("the fifth loss", g.play(), 0);
            CHECK.due("none is there", g.figure(1), 0);
            CHECK.due("at rest", g.play(), VoiceGateway.EMPTY);
            CHECK.due("a new run", Calls.bring(g, start + 5, 0, false, 5), 0);
            CHECK.due("a dropped one may come again", Calls.bring(g, start + 6, 1, false, 66), 1);
            g.play();
            g.play();
            CHECK.due("and is played", g.sample(6), 66);
            g.play();
            CHECK.due("the other is not", g.sample(7), 33);
        }
    }

    private static void countsJumps() {
        VoiceGateway g = new VoiceGateway();
        dueJumps(g, 0, 1000, false, 0);
        dueJumps(g, 1, 1002, false, 0);
        dueJumps(g, 2, 1005, false, 1);
        dueJumps(g, 3, 1007, false, 1);
        dueJumps(g, 4, 1008, false, 2);
        dueJumps(g, 5, 5000, true, 2);
        dueJumps(g, 6, 5002, false, 2);
        dueJumps(g, 7, 5004, true, 2);
        dueJumps(g, 8, 5006 + (1 << 24), false, 3);
        dueJumps(g, 9, -5, false, 4);
        dueJumps(g, 10, -3, false, 4);
    }

    private static void dueJumps(VoiceGateway g, int sequence, int time, boolean mark, int want) {
        Calls.bring(g, sequence, time, mark, 1, 2);
        CHECK.due("play()", g.play(), 2);
        CHECK.due("jumps with sequence " + sequence, g.figure(9), want);
    }

    private static void expectsOverLosses() {
        VoiceGateway g = new VoiceGateway();
        Calls.bring(g, 0, 100, false, 1, 2, 3);
        Calls.bring(g, 3, 109, false, 1, 2, 3);
        Calls.bring(g, 5, 116, false, 1);
        for (int i = 0; i < 4; i++) {
            g.play();
        }
        CHECK.due("two losses of three samples", g.figure(9), 0);
        g.play();
        g.play();
        CHECK.due("a loss of three samples, not four", g.figure(9), 1);
        VoiceGateway wraps = new VoiceGateway();
        dueJumps(wraps, 0, Integer.MAX_VALUE - 2, false, 0);
        wraps.play();
        dueJumps(wraps, 2, Integer.MIN_VALUE + 1, false, 0);
        wraps.play();
        dueJumps(wraps, 4, Integer.MAX_VALUE, false, 1);
    }

    private static void expectsOverTheEnd() {
        VoiceGateway g = new VoiceGateway();
        dueJumps(g, 0, Integer.MAX_VALUE, false, 0);
        dueJumps(g, 1, Integer.MIN_VALUE + 1, false, 0);
        dueJumps(g, 2, -2, true, 0);
        dueJumps(g, 3, 0, false, 0);
    }

    /** An output with so many samples, at least 192, and an empty input; the buffer plays, its next one is 16. */
    private static void filled(VoiceGateway g, int samples) {
        Calls.fullOutput(g);
        g.pass(256 - samples);
        Calls.loseInput(g);
    }

    private static void dueFull(String what, Consumer<VoiceGateway> past) {
        Twins.due(CHECK, what, VoiceGateway.FULL, past, VoiceGateway::play);
    }

    private static void refusesAsFull() {
        dueFull("256 and a packet of 1", g -> {
            filled(g, 256);
            Calls.bring(g, 16, 256, false, 5);
        });
        dueFull("256 and a packet of 16 with a jump", g -> {
            filled(g, 256);
            Calls.bring(g, 16, 999, false, new int[16]);
            Calls.bring(g, 17, 1015, false, 3);
        });
        dueFull("255 and a packet of coding 2", g -> {
            filled(g, 255);
            g.begin(16, 0, 1);
            Calls.sendOne(g, 2, 500, 600);
            g.receive();
        });
        dueFull("a loss of 16", g -> filled(g, 241));
        for (int losses = 1; losses <= 3; losses++) {
            int before = losses;
            dueFull("256 behind " + losses + " losses", g -> {
                filled(g, 256 - 16 * before);
                Calls.playTimes(g, before);
                CHECK.due("output()", g.output(), 256);
                Calls.bring(g, 16 + before + 1, 256 + 16 * before + 16, false, 800, 900);
            });
        }
        dueFull("256 and a new run", P13PlayTest::newRunWhenFull);
        dueFull("everything is full", Calls::fullEverywhere);
    }

    private static void newRunWhenFull(VoiceGateway g) {
        filled(g, 192);
        Calls.playTimes(g, 5);
        CHECK.due("at rest", g.figure(0), 0);
        Calls.bring(g, 99, 12345, false, 5, 6);
    }

    private static void packetsUpTo256() {
        for (int n : new int[] {1, 2, 9, 15, 16}) {
            for (int before = 256 - n - 1; before <= 256 - n + 1; before++) {
                VoiceGateway g = new VoiceGateway();
                filled(g, before);
                Calls.bring(g, 16, 7000, false, new int[n]);
                boolean fits = before + n <= 256;
                CHECK.due(before + " and " + n, g.play(), fits ? n : VoiceGateway.FULL);
                CHECK.due("output()", g.output(), fits ? before + n : before);
                CHECK.due("jumps", g.figure(9), fits ? 1 : 0);
                CHECK.due("packets", g.figure(1), fits ? 0 : 1);
                CHECK.due("next", g.figure(2), fits ? 17 : 16);
                if (!fits) {
                    g.pass(1);
                    CHECK.due("with room", g.play(), n);
                    CHECK.due("its jump is counted once", g.figure(9), 1);
                }
            }
        }
    }

    private static void lossesUpTo256() {
        for (int n : new int[] {1, 2, 9, 16}) {
            for (int before = 256 - n - 1; before <= 256 - n + 1; before++) {
                VoiceGateway g = new VoiceGateway();
                filled(g, before - n);
                Calls.bring(g, 16, 256, false, new int[n]);
                CHECK.due("the last ones", g.play(), n);
                boolean fits = before + n <= 256;
                CHECK.due(before + " and a loss of " + n, g.play(), fits ? n : VoiceGateway.FULL);
                CHECK.due("output()", g.output(), fits ? before + n : before);
                CHECK.due("lost", g.figure(8), fits ? 13 : 12);
                CHECK.due("next", g.figure(2), fits ? 18 : 17);
            }
        }
        VoiceGateway g = new VoiceGateway();
        filled(g, 247);
        Calls.bring(g, 16, 256, false, 1600, 0, 0, 0, 0, 0, 0, 0, 0);
        g.play();
        CHECK.due("full", g.play(), VoiceGateway.FULL);
        CHECK.due("full again", g.play(), VoiceGateway.FULL);
        g.pass(36);
        for (int i = 1; i <= 4; i++) {
            CHECK.due("loss " + i, g.play(), 9);
            CHECK.due("refused ones do not count", g.sample(220 + 9 * (i - 1)), 1600 >> i);
        }
        CHECK.due("full", g.output(), 256);
        CHECK.due("the fifth loss needs no room", g.play(), 0);
        CHECK.due("at rest", g.figure(0), 0);
    }

    private static void refusesAsFullWhileItWaits() {
        VoiceGateway g = new VoiceGateway();
        newRunWhenFull(g);
        CHECK.due("output()", g.output(), 256);
        CHECK.due("no room", g.play(), VoiceGateway.FULL);
        CHECK.due("it still waits", g.figure(0), 1);
        g.prefill(2);
        CHECK.due("and looks at the prefill again", g.play(), VoiceGateway.EMPTY);
        g.prefill(1);
        g.pass(2);
        CHECK.due("with room", g.play(), 2);
        CHECK.due("it plays", g.figure(0), 2);
        CHECK.due("no jump", g.figure(9), 0);
    }

    private static void emptyBeforeFull() {
        Twins.due(CHECK, "play() at rest with 256", VoiceGateway.EMPTY, g -> {
            filled(g, 192);
            Calls.playTimes(g, 5);
            CHECK.due("at rest", g.figure(0), 0);
            CHECK.due("output()", g.output(), 256);
        }, VoiceGateway::play);
        for (int prefill = 2; prefill <= 4; prefill++) {
            int asked = prefill;
            Twins.due(CHECK, "play() with 1 of " + prefill + " and 256", VoiceGateway.EMPTY, g -> {
                newRunWhenFull(g);
                g.prefill(asked);
            }, VoiceGateway::play);
        }
        dueFull("with 2 of 2 and 256", g -> {
            newRunWhenFull(g);
            Calls.bring(g, 100, 0, false, 1);
            g.prefill(2);
        });
    }

    private static void numberThatWouldBePutOut() {
        VoiceGateway small = new VoiceGateway();
        filled(small, 255);
        Calls.bring(small, 16, 256, false, 5);
        CHECK.due("1 behind the last 16", small.play(), 1);
        VoiceGateway large = new VoiceGateway();
        filled(large, 240);
        Calls.bring(large, 16, 256, false, 5);
        Calls.bring(large, 17, 257, false, new int[16]);
        CHECK.due("1", large.play(), 1);
        CHECK.due("16 behind the last 1", large.play(), VoiceGateway.FULL);
        VoiceGateway lost = new VoiceGateway();
        filled(lost, 254);
        Calls.bring(lost, 16, 256, false, 5);
        Calls.bring(lost, 18, 258, false, new int[16]);
        CHECK.due("1", lost.play(), 1);
        CHECK.due("a loss of 1, with a packet of 16 behind it", lost.play(), 1);
        CHECK.due("that packet", lost.play(), VoiceGateway.FULL);
        VoiceGateway none = new VoiceGateway();
        filled(none, 192);
        Calls.playTimes(none, 4);
        CHECK.due("output()", none.output(), 256);
        CHECK.due("nothing, by the fifth loss", none.play(), 0);
        CHECK.due("output()", none.output(), 256);
    }

    private static void sequencesWrap() {
        VoiceGateway g = new VoiceGateway();
        Calls.bring(g, 65534, 0, false, 1);
        Calls.bring(g, 65535, 1, false, 2);
        Calls.bring(g, 1, 3, false, 4);
        g.play();
        CHECK.due("next", g.figure(2), 65535);
        g.play();
        CHECK.due("next", g.figure(2), 0);
        g.play();
        CHECK.due("lost", g.figure(8), 1);
        g.play();
        CHECK.due("output", Calls.outputOf(g), "1 2 1 4");
        VoiceGateway lost = new VoiceGateway();
        Calls.bring(lost, 65534, 0, false, 1);
        lost.play();
        lost.play();
        CHECK.due("a lost 65535", lost.figure(2), 0);
    }
}
