/** The boundary cases that the document names before its promises, sentence by sentence; codings: P00CodingsTest. */
public final class P00TermsTest {
    private static final Check CHECK = new Check();
    private static final int[] INTS = {0, 1, -1, 255, 256, 65535, 65536, 1 << 24, Integer.MAX_VALUE, Integer.MIN_VALUE};

    public static void main(String[] args) {
        CHECK.sentence("An object is used for at most 512 calls after it has been made", P00TermsTest::lastCall);
        CHECK.sentence("SAMPLES are -32768 .. 32767", P00TermsTest::samples);
        CHECK.sentence("The INPUT and the OUTPUT are lists of samples, both empty at first", P00TermsTest::emptyLists);
        CHECK.sentence("the input has at most 64", P00TermsTest::inputOf64);
        CHECK.sentence("A PACKET is a list of bytes: 128; the TYPE, 128 more with the MARK", P00TermsTest::types);
        CHECK.sentence("two bytes SEQUENCE", P00TermsTest::sequences);
        CHECK.sentence("four TIME, the highest byte first", P00TermsTest::times);
        CHECK.sentence("four SOURCE, the highest byte first", P00TermsTest::sources);
        CHECK.sentence("for coding 2 two bytes of value and one of index, as they are before the first sample, a byte 0",
                P00TermsTest::headOfCoding2);
        CHECK.sentence("bytes of two samples each, the first one in the upper half", P00TermsTest::upperHalf);
        CHECK.sentence("It has 1 .. 16 samples, with coding 2 an even number", P00TermsTest::numbersOfSamples);
        CHECK.sentence("THE LINE is a list of at most 8 packets, empty at first", P00TermsTest::lineOf8);
        CHECK.sentence("The sender has a next SEQUENCE (0 .. 65535), a next TIME and a SOURCE, all 0 at first",
                P00TermsTest::newSender);
        CHECK.sentence("value and index of coding 2, which go on from packet to packet", P00TermsTest::goesOn);
        CHECK.sentence("It is at REST at first: then it has no packet", P00TermsTest::restAtFirst);
        CHECK.sentence("When it is at rest, a packet that is accepted makes its sequence the NEXT one",
                P00TermsTest::nextFromRest);
        CHECK.sentence("and its source the source of all", P00TermsTest::sourceFromRest);
        CHECK.sentence("and the buffer WAITS", P00TermsTest::waitsFromRest);
        CHECK.sentence("It PLAYS as soon as it waits and has as many packets as the PREFILL says when play() is called",
                P00TermsTest::playsWithPrefill);
        CHECK.sentence("the PREFILL (1 .. 4, 1 at first)", P00TermsTest::prefillAtFirst);
        CHECK.sentence("The DISTANCE of a sequence s is s less the next one, modulo 65536, as -32768 .. 32767",
                P00TermsTest::distances);
        CHECK.end();
    }

    private static VoiceGateway newWith(int coding, int... samples) {
        VoiceGateway g = new VoiceGateway();
        Calls.sendOne(g, coding, samples);
        return g;
    }

    private static void lastCall() {
        VoiceGateway g = new VoiceGateway();
        for (int call = 1; call <= 509; call += 4) {
            CHECK.due("call " + call, g.feed(call), true);
            CHECK.due("call " + (call + 1), g.send(3, 1, false), 14);
            CHECK.due("call " + (call + 2), g.receive(), 0);
            CHECK.due("call " + (call + 3), g.play(), 1);
        }
    }

    private static void samples() {
        VoiceGateway g = new VoiceGateway();
        CHECK.due("feed(-32768)", g.feed(-32768), true);
        CHECK.due("feed(32767)", g.feed(32767), true);
        CHECK.due("feed(-32769)", g.feed(-32769), false);
        CHECK.due("feed(32768)", g.feed(32768), false);
        CHECK.due("compress(0, -32768)", g.compress(0, -32768), 42);
        CHECK.due("compress(0, 32767)", g.compress(0, 32767), 170);
        CHECK.due("compress(0, -32769)", g.compress(0, -32769), VoiceGateway.BAD);
        CHECK.due("compress(0, 32768)", g.compress(0, 32768), VoiceGateway.BAD);
        g.send(3, 2, false);
        g.receive();
        g.play();
        CHECK.due("played", Calls.outputOf(g), "-32768 32767");
    }

    private static void emptyLists() {
        VoiceGateway g = new VoiceGateway();
        CHECK.due("output()", g.output(), 0);
        CHECK.due("sample(0)", g.sample(0), 40000);
        CHECK.due("pass(1)", g.pass(1), false);
        CHECK.due("send(3, 1, false)", g.send(3, 1, false), VoiceGateway.EMPTY);
    }

    private static void inputOf64() {
        VoiceGateway g = new VoiceGateway();
        for (int i = 1; i <= 64; i++) {
            CHECK.due("sample " + i, g.feed(i), true);
        }
        CHECK.due("sample 65", g.feed(65), false);
        for (int i = 0; i < 4; i++) {
            CHECK.due("packet " + i, g.send(0, 16, false), 28);
        }
        CHECK.due("a sample more", g.send(0, 1, false), VoiceGateway.EMPTY);
    }

    private static void types() {
        int[] plain = {8, 0, 5, 11};
        int[] marked = {136, 128, 133, 139};
        for (int coding = 0; coding < 4; coding++) {
            VoiceGateway g = newWith(coding, 1, 2);
            Calls.sendMarked(g, coding, true, 1, 2);
            CHECK.due("byte 0", g.byteAt(0, 0), 128);
            CHECK.due("byte 0 with the mark", g.byteAt(1, 0), 128);
            CHECK.due("type of coding " + coding, g.byteAt(0, 1), plain[coding]);
            CHECK.due("type of coding " + coding + " with the mark", g.byteAt(1, 1), marked[coding]);
        }
    }

    private static void sequences() {
        for (int sequence : new int[] {0, 1, 255, 256, 32767, 32768, 65280, 65535}) {
            VoiceGateway g = new VoiceGateway();
            g.begin(sequence, 0, 0);
            Calls.sendOne(g, 3, 1);
            CHECK.due("higher byte of " + sequence, g.byteAt(0, 2), sequence / 256);
            CHECK.due("lower byte of " + sequence, g.byteAt(0, 3), sequence % 256);
        }
    }

    private static void times() {
        for (int time : INTS) {
            VoiceGateway g = new VoiceGateway();
            g.begin(0, time, 0);
            Calls.sendOne(g, 3, 1);
            fourBytes("time", g, 4, time);
            fourBytes("source", g, 8, 0);
        }
    }

    private static void sources() {
        for (int source : INTS) {
            VoiceGateway g = new VoiceGateway();
            g.begin(0, 0, source);
            Calls.sendOne(g, 3, 1);
            fourBytes("time", g, 4, 0);
            fourBytes("source", g, 8, source);
        }
    }

    private static void fourBytes(String what, VoiceGateway g, int from, int number) {
        for (int i = 0; i < 4; i++) {
            CHECK.due(what + " " + number + ", byte " + i, g.byteAt(0, from + i), (number >>> (24 - 8 * i)) & 255);
        }
    }

    private static void headOfCoding2() {
        VoiceGateway g = newWith(2, 1000, 1000);
        CHECK.due("value and index at first", Calls.bytes(g, 0), "128 5 0 0 0 0 0 0 0 0 0 0 0 0 0 0 119");
        CHECK.due("value then", g.figure(10), 41);
        CHECK.due("index then", g.figure(11), 16);
        Calls.sendOne(g, 2, -1000, -1000);
        CHECK.due("as they are before", Calls.bytes(g, 1), "128 5 0 1 0 0 0 2 0 0 0 0 0 41 16 0 255");
        CHECK.due("value below 0", g.figure(10), 41 - 63 - 136);
        Calls.sendOne(g, 2, 0, 0);
        CHECK.due("its two bytes", g.byteAt(2, 12) + " " + g.byteAt(2, 13), "255 98");
    }

    private static void upperHalf() {
        CHECK.due("0 and 1", newWith(2, 0, 1).byteAt(0, 16), 1);
        CHECK.due("-1 and 0", newWith(2, -1, -1).byteAt(0, 16), 16 * 9);
        VoiceGateway g = newWith(2, 0, 0);
        Calls.pokeAll(g, 0, 16, 0x70);
        g.receive();
        g.play();
        CHECK.due("a code 7 and a code 0", Calls.outputOf(g), "11 13");
        VoiceGateway other = newWith(2, 0, 0);
        Calls.pokeAll(other, 0, 16, 0x07);
        other.receive();
        other.play();
        CHECK.due("a code 0 and a code 7", Calls.outputOf(other), "0 11");
    }

    private static void numbersOfSamples() {
        for (int coding = 0; coding < 4; coding++) {
            for (int n = 0; n <= 18; n++) {
                VoiceGateway g = new VoiceGateway();
                Calls.feedAll(g, new int[20]);
                boolean can = n >= 1 && n <= 16 && (coding != 2 || n % 2 == 0);
                CHECK.due("coding " + coding + ", " + n, g.send(coding, n, false) > 0, can);
                CHECK.due("received", g.receive(), can ? 0 : VoiceGateway.EMPTY);
                CHECK.due("played", g.play(), can ? n : VoiceGateway.EMPTY);
            }
        }
    }

    private static void lineOf8() {
        VoiceGateway g = new VoiceGateway();
        CHECK.due("at first", g.line(), 0);
        Calls.feedAll(g, new int[9]);
        for (int i = 1; i <= 8; i++) {
            CHECK.due("packet " + i, g.send(0, 1, false), 13);
        }
        CHECK.due("packet 9", g.send(0, 1, false), VoiceGateway.FULL);
        CHECK.due("packet 9 by doubling", g.disturb(0, 2), false);
        CHECK.due("line()", g.line(), 8);
    }

    private static void newSender() {
        CHECK.due("packet", Calls.bytes(newWith(3, 1), 0), "128 11 0 0 0 0 0 0 0 0 0 0 0 1");
        VoiceGateway g = new VoiceGateway();
        CHECK.due("next sequence", g.figure(12), 0);
        CHECK.due("the least sequence", g.begin(0, 0, 0), true);
        CHECK.due("less", g.begin(-1, 0, 0), false);
        CHECK.due("the greatest sequence", g.begin(65535, 0, 0), true);
        CHECK.due("more", g.begin(65536, 0, 0), false);
    }

    private static void goesOn() {
        VoiceGateway one = newWith(2, 300, -300, 20000, -20000);
        VoiceGateway two = newWith(2, 300, -300);
        Calls.sendOne(two, 3, 5);
        two.begin(9, 9, 9);
        Calls.sendOne(two, 2, 20000, -20000);
        CHECK.due("value", two.figure(10), one.figure(10));
        CHECK.due("index", two.figure(11), one.figure(11));
        CHECK.due("codes", two.byteAt(2, 16), one.byteAt(0, 17));
    }

    private static void restAtFirst() {
        VoiceGateway g = new VoiceGateway();
        CHECK.due("state", g.figure(0), 0);
        CHECK.due("packets", g.figure(1), 0);
        CHECK.due("next", g.figure(2), -1);
        CHECK.due("play()", g.play(), VoiceGateway.EMPTY);
        Calls.sendOne(g, 3, 1);
        CHECK.due("a packet on the line leaves it", g.figure(0), 0);
    }

    private static void nextFromRest() {
        for (int sequence : new int[] {0, 1, 32767, 32768, 65535}) {
            VoiceGateway g = new VoiceGateway();
            CHECK.due("receive()", Calls.bring(g, sequence, 0, false, 1), 0);
            CHECK.due("next", g.figure(2), sequence);
            CHECK.due("one below", Calls.bring(g, (sequence + 65535) % 65536, 0, false, 1), VoiceGateway.LATE);
            CHECK.due("next stays", g.figure(2), sequence);
            Calls.playTimes(g, 6);
            CHECK.due("at rest again", g.figure(2), -1);
            Calls.bring(g, 65535 - sequence, 0, false, 1);
            CHECK.due("next then", g.figure(2), 65535 - sequence);
        }
    }

    private static void sourceFromRest() {
        for (int source : INTS) {
            VoiceGateway g = new VoiceGateway();
            CHECK.due("source " + source, bringFrom(g, 10, source), 0);
            CHECK.due("the same", bringFrom(g, 11, source), 1);
            CHECK.due("the highest bit", bringFrom(g, 12, source ^ Integer.MIN_VALUE), VoiceGateway.OTHER);
            CHECK.due("the lowest bit", bringFrom(g, 12, source ^ 1), VoiceGateway.OTHER);
            Calls.playTimes(g, 7);
            CHECK.due("another at rest", bringFrom(g, 12, source ^ 1), 0);
            CHECK.due("and the first then", bringFrom(g, 13, source), VoiceGateway.OTHER);
        }
    }

    private static int bringFrom(VoiceGateway g, int sequence, int source) {
        g.begin(sequence, 0, source);
        Calls.sendOne(g, 3, 5);
        return g.receive();
    }

    private static void waitsFromRest() {
        VoiceGateway g = new VoiceGateway();
        Calls.bring(g, 5, 0, false, 1);
        CHECK.due("state", g.figure(0), 1);
        for (int i = 1; i < 8; i++) {
            Calls.bring(g, 5 + i, i, false, 1);
            CHECK.due("with as many as the prefill says, before play()", g.figure(0), 1);
        }
        VoiceGateway bad = newWith(3, 1);
        bad.disturb(0, 3);
        bad.receive();
        CHECK.due("a packet that is not accepted", bad.figure(0), 0);
    }

    private static void playsWithPrefill() {
        for (int n = 1; n <= 4; n++) {
            for (int has = 1; has <= 5; has++) {
                VoiceGateway g = new VoiceGateway();
                g.prefill(n);
                for (int i = 0; i < has; i++) {
                    Calls.bring(g, i, i, false, 1);
                }
                String what = has + " packets, prefill " + n;
                CHECK.due(what, g.play(), has >= n ? 1 : VoiceGateway.EMPTY);
                CHECK.due(what, g.figure(0), has >= n ? 2 : 1);
            }
        }
        VoiceGateway gap = new VoiceGateway();
        gap.prefill(2);
        Calls.bring(gap, 0, 0, false, 1);
        Calls.bring(gap, 7, 7, false, 1);
        CHECK.due("the packets need not follow one another", gap.play(), 1);
    }

    private static void prefillAtFirst() {
        VoiceGateway g = new VoiceGateway();
        Calls.bring(g, 0, 0, false, 1);
        CHECK.due("play() with one packet", g.play(), 1);
        CHECK.due("prefill(0)", g.prefill(0), false);
        CHECK.due("prefill(1)", g.prefill(1), true);
        CHECK.due("prefill(4)", g.prefill(4), true);
        CHECK.due("prefill(5)", g.prefill(5), false);
    }

    private static void distances() {
        for (int next : new int[] {0, 1, 7, 8, 32767, 32768, 65528, 65529, 65535}) {
            for (int off : new int[] {-32768, -32767, -8, -1, 0, 1, 6, 7, 8, 9, 32766, 32767}) {
                VoiceGateway g = new VoiceGateway();
                Calls.bring(g, next, 0, false, 1);
                int want = off < 0 ? VoiceGateway.LATE : off > 7 ? VoiceGateway.FAR : off;
                int got = Calls.bring(g, Math.floorMod(next + off, 65536), 0, false, 1);
                CHECK.due("distance " + off + " from " + next, got, off == 0 ? VoiceGateway.TWICE : want);
                CHECK.due("late", g.figure(4), off < 0 ? 1 : 0);
                CHECK.due("far", g.figure(5), off > 7 ? 1 : 0);
            }
        }
    }
}
