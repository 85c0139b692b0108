/**
 * Carries samples of speech as packets over a line that may lose, exchange, double and damage them,
 * and plays them in order again, concealing what is missing.
 */
public final class VoiceGateway {
    public static final int BAD = -1;
    public static final int EMPTY = -2;
    public static final int FULL = -3;
    public static final int LATE = -4;
    public static final int FAR = -5;
    public static final int TWICE = -6;
    public static final int OTHER = -7;

    private static final int NO_SAMPLE = 40000;
    private static final int LEAST_SAMPLE = -32768;
    private static final int MOST_SAMPLE = 32767;
    private static final int INPUT_ROOM = 64;
    private static final int OUTPUT_ROOM = 256;
    private static final int MOST_PACKET_SAMPLES = 16;
    private static final int SEQUENCES = 65536;

    private static final int REST = 0;
    private static final int WAITS = 1;
    private static final int PLAYS = 2;

    private final Samples fedSamples;
    private final Samples playedSamples;
    private final Wire wire;
    private final Sender sender;
    private final Buffer buffer;
    private final Player player;

    public VoiceGateway() {
        fedSamples = new Samples(INPUT_ROOM);
        playedSamples = new Samples(OUTPUT_ROOM);
        wire = new Wire();
        sender = new Sender();
        buffer = new Buffer();
        player = new Player();
    }

    public int compress(int coding, int x) {
        if (!Intervals.has(coding) || !isSample(x)) {
            return BAD;
        }
        return Intervals.codeOf(coding, x);
    }

    public int expand(int coding, int code) {
        if (!Intervals.has(coding) || !isByte(code)) {
            return NO_SAMPLE;
        }
        return Intervals.middleOf(coding, code);
    }

    public boolean feed(int x) {
        if (!isSample(x) || !fedSamples.hasRoom(1)) {
            return false;
        }
        fedSamples.add(x);
        return true;
    }

    public boolean begin(int sequence, int time, int source) {
        if (sequence < 0 || sequence >= SEQUENCES) {
            return false;
        }
        sender.restart(sequence, time, source);
        return true;
    }

    public int send(int coding, int n, boolean mark) {
        if (!Sender.canPack(coding, n)) {
            return BAD;
        }
        if (fedSamples.size() < n) {
            return EMPTY;
        }
        Packet packet = wire.append();
        if (packet == null) {
            return FULL;
        }
        sender.pack(packet, coding, mark, fedSamples, n);
        fedSamples.dropFirst(n);
        return packet.length();
    }

    public int line() {
        return wire.size();
    }

    public int byteAt(int k, int i) {
        Packet packet = wire.at(k);
        return packet == null ? BAD : packet.get(i);
    }

    public boolean poke(int k, int i, int b) {
        Packet packet = wire.at(k);
        return packet != null && isByte(b) && packet.put(i, b);
    }

    public boolean disturb(int k, int how) {
        switch (how) {
            case 0:
                return wire.lose(k);
            case 1:
                return wire.exchange(k);
            case 2:
                return wire.repeat(k);
            case 3:
                return wire.shorten(k);
            default:
                return false;
        }
    }

    public int receive() {
        Packet first = wire.at(0);
        if (first == null) {
            return EMPTY;
        }
        int answer = buffer.accept(first);
        wire.lose(0);
        return answer;
    }

    public boolean prefill(int n) {
        return buffer.setPrefill(n);
    }

    public int play() {
        return player.playNext(buffer, playedSamples);
    }

    public int output() {
        return playedSamples.size();
    }

    public int sample(int i) {
        return playedSamples.get(i);
    }

    public boolean pass(int n) {
        if (n < 0 || n > playedSamples.size() || !fedSamples.hasRoom(n)) {
            return false;
        }
        fedSamples.addFirstOf(playedSamples, n);
        playedSamples.dropFirst(n);
        return true;
    }

    public int figure(int k) {
        switch (k) {
            case 0:
                return buffer.state();
            case 1:
                return buffer.size();
            case 2:
                return buffer.nextSequence();
            case 3:
                return buffer.refusals(BAD);
            case 4:
                return buffer.refusals(LATE);
            case 5:
                return buffer.refusals(FAR);
            case 6:
                return buffer.refusals(TWICE);
            case 7:
                return buffer.refusals(OTHER);
            case 8:
                return player.lostPackets();
            case 9:
                return player.jumps();
            case 10:
                return sender.value();
            case 11:
                return sender.index();
            case 12:
                return sender.nextSequence();
            default:
                return BAD;
        }
    }

    private static boolean isSample(int x) {
        return x >= LEAST_SAMPLE && x <= MOST_SAMPLE;
    }

    private static boolean isByte(int b) {
        return b >= 0 && b <= 255;
    }

    private static int sequenceAfter(int sequence) {
        return (sequence + 1) % SEQUENCES;
    }

    /** A list of samples; its row is made once, so that no call makes another. */
    private static final class Samples {
        private final int[] row;
        private int count;

        Samples(int room) {
            row = new int[room];
            count = 0;
        }

        int size() {
            return count;
        }

        /** Written without count + n, which a large n would make wrap. */
        boolean hasRoom(int n) {
            return n <= row.length - count;
        }

        int get(int i) {
            return i >= 0 && i < count ? row[i] : NO_SAMPLE;
        }

        void add(int x) {
            if (count < row.length) {
                row[count] = x;
                count++;
            }
        }

        void addFirstOf(Samples other, int n) {
            for (int i = 0; i < n && i < other.count; i++) {
                add(other.row[i]);
            }
        }

        void dropFirst(int n) {
            if (n > 0 && n <= count) {
                System.arraycopy(row, n, row, 0, count - n);
                count -= n;
            }
        }

        void clear() {
            count = 0;
        }
    }

    /** The codings 0 and 1. */
    private static final class Intervals {
        private static final int FLIPPED = 85;
        private static final int SIGN = 128;
        private static final int BIAS = 132;
        private static final int MOST_BEFORE_BIAS = 32635;
        private static final int LAST_SEGMENT = 7;

        private Intervals() {
        }

        static boolean has(int coding) {
            return coding == 0 || coding == 1;
        }

        static int codeOf(int coding, int x) {
            return coding == 0 ? codeOf0(x) : codeOf1(x);
        }

        static int middleOf(int coding, int code) {
            return coding == 0 ? middleOf0(code) : middleOf1(code);
        }

        private static int codeOf0(int x) {
            int m = x < 0 ? -x - 1 : x;
            int s = segmentOf(m);
            int k = s == 0 ? m >> 4 : (m >> (s + 3)) - 16;
            int sign = x < 0 ? 0 : SIGN;
            return (16 * s + k + sign) ^ FLIPPED;
        }

        private static int middleOf0(int code) {
            int plain = code ^ FLIPPED;
            int s = (plain >> 4) & 7;
            int k = plain & 15;
            int middle = s == 0 ? 16 * k + 8 : middleOfInterval(s, k);
            return (plain & SIGN) == 0 ? -middle : middle;
        }

        private static int codeOf1(int x) {
            int size = x < 0 ? -x : x;
            int m = (size > MOST_BEFORE_BIAS ? MOST_BEFORE_BIAS : size) + BIAS;
            int s = segmentOf(m);
            int k = (m >> (s + 3)) - 16;
            int sign = x < 0 ? SIGN : 0;
            return 255 - (16 * s + k) - sign;
        }

        private static int middleOf1(int code) {
            int plain = 255 - code;
            int s = (plain >> 4) & 7;
            int k = plain & 15;
            int size = middleOfInterval(s, k) - BIAS;
            return code < SIGN ? -size : size;
        }

        private static int middleOfInterval(int s, int k) {
            return ((16 + k) << (s + 3)) + (1 << (s + 2));
        }

        /** From 256 on both codings have the same segments, each twice as long as the one before. */
        private static int segmentOf(int m) {
            int s = 0;
            while (s < LAST_SEGMENT && m >= 256 << s) {
                s++;
            }
            return s;
        }
    }

    /** Value and index of coding 2, as a sender carries them on or a packet brings them. */
    private static final class Adaptive {
        private static final int LAST_INDEX = 88;
        private static final int[] STEPS = {
            7, 8, 9, 10, 11, 12, 13, 14, 16, 17, 19, 21, 23, 25, 28, 31, 34, 37, 41, 45, 50, 55, 60, 66, 73, 80,
            88, 97, 107, 118, 130, 143, 157, 173, 190, 209, 230, 253, 279, 307, 337, 371, 408, 449, 494, 544, 598,
            658, 724, 796, 876, 963, 1060, 1166, 1282, 1411, 1552, 1707, 1878, 2066, 2272, 2499, 2749, 3024, 3327,
            3660, 4026, 4428, 4871, 5358, 5894, 6484, 7132, 7845, 8630, 9493, 10442, 11487, 12635, 13899, 15289,
            16818, 18500, 20350, 22385, 24623, 27086, 29794, 32767
        };

        private int value;
        private int index;

        Adaptive() {
            value = 0;
            index = 0;
        }

        static boolean isIndex(int i) {
            return i >= 0 && i <= LAST_INDEX;
        }

        int value() {
            return value;
        }

        int index() {
            return index;
        }

        void set(int newValue, int newIndex) {
            value = within(newValue, LEAST_SAMPLE, MOST_SAMPLE);
            index = within(newIndex, 0, LAST_INDEX);
        }

        int codeAndChange(int x) {
            int code = codeOf(x);
            changeBy(code);
            return code;
        }

        private int codeOf(int x) {
            int t = STEPS[index];
            int d = x - value;
            int code = d < 0 ? 8 : 0;
            int r = d < 0 ? -d : d;
            if (r >= t) {
                code += 4;
                r -= t;
            }
            if (r >= t / 2) {
                code += 2;
                r -= t / 2;
            }
            if (r >= t / 4) {
                code += 1;
            }
            return code;
        }

        void changeBy(int code) {
            int t = STEPS[index];
            int change = t / 8;
            if ((code & 4) != 0) {
                change += t;
            }
            if ((code & 2) != 0) {
                change += t / 2;
            }
            if ((code & 1) != 0) {
                change += t / 4;
            }
            int indexChange = (code & 4) != 0 ? 2 + 2 * (code & 3) : -1;
            value = within((code & 8) != 0 ? value - change : value + change, LEAST_SAMPLE, MOST_SAMPLE);
            index = within(index + indexChange, 0, LAST_INDEX);
        }

        private static int within(int x, int least, int most) {
            return x < least ? least : x > most ? most : x;
        }
    }

    /** A list of bytes 0 .. 255, which may be damaged: isSound() tells whether the rest can be read. */
    private static final class Packet {
        private static final int FIRST_BYTE = 128;
        private static final int MARK = 128;
        private static final int TYPE_AT = 1;
        private static final int SEQUENCE_AT = 2;
        private static final int TIME_AT = 4;
        private static final int SOURCE_AT = 8;
        private static final int HEAD = 12;
        private static final int VALUE_AT = 12;
        private static final int INDEX_AT = 14;
        private static final int ZERO_AT = 15;
        private static final int HEAD_2 = 16;
        private static final int ROOM = 44;
        private static final int[] TYPES = {8, 0, 5, 11};

        private final int[] bytes;
        private int count;

        Packet() {
            bytes = new int[ROOM];
            count = 0;
        }

        int length() {
            return count;
        }

        int get(int i) {
            return has(i) ? bytes[i] : BAD;
        }

        boolean put(int i, int b) {
            if (!has(i)) {
                return false;
            }
            bytes[i] = b;
            return true;
        }

        private boolean has(int i) {
            return i >= 0 && i < count;
        }

        boolean cutLast() {
            if (count == 0) {
                return false;
            }
            count--;
            return true;
        }

        void clear() {
            count = 0;
        }

        void copyFrom(Packet other) {
            System.arraycopy(other.bytes, 0, bytes, 0, ROOM);
            count = other.count;
        }

        void addByte(int b) {
            if (count < ROOM) {
                bytes[count] = b & 255;
                count++;
            }
        }

        void addPair(int number) {
            addByte(number >> 8);
            addByte(number);
        }

        void addFour(int number) {
            addPair(number >> 16);
            addPair(number);
        }

        void addHead(int coding, boolean mark) {
            addByte(FIRST_BYTE);
            addByte(TYPES[coding & 3] + (mark ? MARK : 0));
        }

        private int pairAt(int i) {
            return i >= 0 && i + 1 < ROOM ? bytes[i] * 256 + bytes[i + 1] : 0;
        }

        private int fourAt(int i) {
            return (pairAt(i) << 16) | pairAt(i + 2);
        }

        private int sampleAt(int i) {
            int pair = pairAt(i);
            return pair > MOST_SAMPLE ? pair - SEQUENCES : pair;
        }

        boolean hasMark() {
            return (bytes[TYPE_AT] & MARK) != 0;
        }

        int sequence() {
            return pairAt(SEQUENCE_AT);
        }

        int time() {
            return fourAt(TIME_AT);
        }

        int source() {
            return fourAt(SOURCE_AT);
        }

        private int coding() {
            int type = bytes[TYPE_AT] & (MARK - 1);
            for (int c = 0; c < TYPES.length; c++) {
                if (TYPES[c] == type) {
                    return c;
                }
            }
            return BAD;
        }

        /** How many samples its length tells of; 0 or less when it can be of no whole sample. */
        int samplesIn() {
            int body = count - HEAD;
            switch (coding()) {
                case 0:
                case 1:
                    return body;
                case 2:
                    return 2 * (count - HEAD_2);
                case 3:
                    return body % 2 == 0 ? body / 2 : 0;
                default:
                    return 0;
            }
        }

        boolean isSound() {
            if (count <= HEAD || bytes[0] != FIRST_BYTE) {
                return false;
            }
            int n = samplesIn();
            if (n < 1 || n > MOST_PACKET_SAMPLES) {
                return false;
            }
            return coding() != 2 || (Adaptive.isIndex(bytes[INDEX_AT]) && bytes[ZERO_AT] == 0);
        }

        /** The adaptive one is lent, so that reading makes no object. */
        void readInto(Samples samples, Adaptive adaptive) {
            int coding = coding();
            if (coding == 2) {
                readAdaptive(samples, adaptive);
                return;
            }
            int width = coding == 3 ? 2 : 1;
            for (int i = HEAD; i + width <= count; i += width) {
                samples.add(coding == 3 ? sampleAt(i) : Intervals.middleOf(coding, bytes[i]));
            }
        }

        private void readAdaptive(Samples samples, Adaptive adaptive) {
            adaptive.set(sampleAt(VALUE_AT), bytes[INDEX_AT]);
            for (int i = HEAD_2; i < count; i++) {
                adaptive.changeBy(bytes[i] >> 4);
                samples.add(adaptive.value());
                adaptive.changeBy(bytes[i] & 15);
                samples.add(adaptive.value());
            }
        }
    }

    /** The line. Its packets are made once; those behind the count are free and used again. */
    private static final class Wire {
        private static final int ROOM = 8;

        private final Packet[] packets;
        private int count;

        Wire() {
            packets = new Packet[ROOM];
            for (int i = 0; i < ROOM; i++) {
                packets[i] = new Packet();
            }
            count = 0;
        }

        int size() {
            return count;
        }

        Packet at(int k) {
            return k >= 0 && k < count ? packets[k] : null;
        }

        /** A new packet without bytes at the end; null when there is no room. */
        Packet append() {
            if (count >= ROOM) {
                return null;
            }
            Packet packet = packets[count];
            packet.clear();
            count++;
            return packet;
        }

        boolean lose(int k) {
            Packet lost = at(k);
            if (lost == null) {
                return false;
            }
            for (int i = k; i + 1 < count; i++) {
                packets[i] = packets[i + 1];
            }
            count--;
            packets[count] = lost;
            return true;
        }

        boolean exchange(int k) {
            // Looked at first, as k + 1 would wrap for the largest k.
            Packet before = at(k);
            if (before == null || k + 1 >= count) {
                return false;
            }
            packets[k] = packets[k + 1];
            packets[k + 1] = before;
            return true;
        }

        boolean repeat(int k) {
            Packet original = at(k);
            if (original == null) {
                return false;
            }
            Packet copy = append();
            if (copy == null) {
                return false;
            }
            copy.copyFrom(original);
            return true;
        }

        boolean shorten(int k) {
            Packet packet = at(k);
            return packet != null && packet.cutLast();
        }
    }

    /** Makes packets of samples; coding 2 goes on from packet to packet. */
    private static final class Sender {
        private int sequence;
        private int time;
        private int source;
        private final Adaptive adaptive;

        Sender() {
            sequence = 0;
            time = 0;
            source = 0;
            adaptive = new Adaptive();
        }

        static boolean canPack(int coding, int n) {
            if (coding < 0 || coding > 3 || n < 1 || n > MOST_PACKET_SAMPLES) {
                return false;
            }
            return coding != 2 || n % 2 == 0;
        }

        void restart(int newSequence, int newTime, int newSource) {
            sequence = newSequence;
            time = newTime;
            source = newSource;
        }

        int nextSequence() {
            return sequence;
        }

        int value() {
            return adaptive.value();
        }

        int index() {
            return adaptive.index();
        }

        void pack(Packet packet, int coding, boolean mark, Samples from, int n) {
            packet.addHead(coding, mark);
            packet.addPair(sequence);
            packet.addFour(time);
            packet.addFour(source);
            if (coding == 2) {
                packAdaptive(packet, from, n);
            } else {
                packPlain(packet, coding, from, n);
            }
            sequence = sequenceAfter(sequence);
            time += n;
        }

        private static void packPlain(Packet packet, int coding, Samples from, int n) {
            for (int i = 0; i < n; i++) {
                int x = from.get(i);
                if (coding == 3) {
                    packet.addPair(x);
                } else {
                    packet.addByte(Intervals.codeOf(coding, x));
                }
            }
        }

        private void packAdaptive(Packet packet, Samples from, int n) {
            packet.addPair(adaptive.value());
            packet.addByte(adaptive.index());
            packet.addByte(0);
            for (int i = 0; i + 1 < n; i += 2) {
                int upper = adaptive.codeAndChange(from.get(i));
                int lower = adaptive.codeAndChange(from.get(i + 1));
                packet.addByte(16 * upper + lower);
            }
        }
    }

    /** Puts packets in order again, and counts those that it refuses. */
    private static final class Buffer {
        private static final int ROOM = 8;
        private static final int MOST_PREFILL = 4;

        // All distances are 0 .. 7, so a sequence modulo 8 has a place of its own.
        private final Packet[] places;
        private final boolean[] taken;
        private final int[] refusals;
        private int state;
        private int count;
        private int next;
        private int source;
        private int prefill;

        Buffer() {
            places = new Packet[ROOM];
            for (int i = 0; i < ROOM; i++) {
                places[i] = new Packet();
            }
            taken = new boolean[ROOM];
            refusals = new int[1 - OTHER];
            state = REST;
            count = 0;
            next = 0;
            source = 0;
            prefill = 1;
        }

        int state() {
            return state;
        }

        int size() {
            return count;
        }

        int nextSequence() {
            return state == REST ? -1 : next;
        }

        int refusals(int answer) {
            return answer >= OTHER && answer < 0 ? refusals[-answer] : 0;
        }

        boolean setPrefill(int n) {
            if (n < 1 || n > MOST_PREFILL) {
                return false;
            }
            prefill = n;
            return true;
        }

        int accept(Packet packet) {
            int answer = judge(packet);
            if (answer < 0) {
                refusals[-answer]++;
                return answer;
            }
            if (state == REST) {
                state = WAITS;
                next = packet.sequence();
                source = packet.source();
            }
            int place = placeOf(packet.sequence());
            places[place].copyFrom(packet);
            taken[place] = true;
            count++;
            return answer;
        }

        /** The packet's distance, or why it is refused. */
        private int judge(Packet packet) {
            if (!packet.isSound()) {
                return BAD;
            }
            if (state == REST) {
                return 0;
            }
            if (packet.source() != source) {
                return OTHER;
            }
            int distance = distanceOf(packet.sequence());
            if (distance < 0) {
                return LATE;
            }
            if (distance >= ROOM) {
                return FAR;
            }
            return taken[placeOf(packet.sequence())] ? TWICE : distance;
        }

        private int distanceOf(int sequence) {
            int ahead = Math.floorMod(sequence - next, SEQUENCES);
            return ahead >= SEQUENCES / 2 ? ahead - SEQUENCES : ahead;
        }

        private static int placeOf(int sequence) {
            return Math.floorMod(sequence, ROOM);
        }

        boolean isReady() {
            return state == PLAYS || (state == WAITS && count >= prefill);
        }

        /** The packet with the next sequence; null when it is missing. */
        Packet due() {
            int place = placeOf(next);
            return taken[place] ? places[place] : null;
        }

        void goOn() {
            int place = placeOf(next);
            if (taken[place]) {
                taken[place] = false;
                count--;
            }
            next = sequenceAfter(next);
            state = PLAYS;
        }

        void comeToRest() {
            for (int i = 0; i < ROOM; i++) {
                taken[i] = false;
            }
            count = 0;
            state = REST;
        }
    }

    /** Plays what the buffer has, and conceals what it lacks. */
    private static final class Player {
        private static final int MOST_CONCEALED = 4;

        private final Samples last;
        private final Adaptive adaptive;
        private int expected;
        private int lostInRow;
        private int lost;
        private int jumps;

        Player() {
            last = new Samples(MOST_PACKET_SAMPLES);
            adaptive = new Adaptive();
            expected = 0;
            lostInRow = 0;
            lost = 0;
            jumps = 0;
        }

        int lostPackets() {
            return lost;
        }

        int jumps() {
            return jumps;
        }

        int playNext(Buffer buffer, Samples out) {
            if (!buffer.isReady()) {
                return EMPTY;
            }
            Packet due = buffer.due();
            if (due != null) {
                return playPacket(due, buffer, out);
            }
            return lostInRow < MOST_CONCEALED ? conceal(buffer, out) : giveUp(buffer);
        }

        private int playPacket(Packet packet, Buffer buffer, Samples out) {
            int n = packet.samplesIn();
            if (!out.hasRoom(n)) {
                return FULL;
            }
            // A buffer plays from its first played packet on: while it waits, no time is expected yet.
            boolean playedBefore = buffer.state() == PLAYS;
            if (playedBefore && !packet.hasMark() && packet.time() != expected) {
                jumps++;
            }
            expected = packet.time() + n;
            last.clear();
            packet.readInto(last, adaptive);
            out.addFirstOf(last, n);
            lostInRow = 0;
            buffer.goOn();
            return n;
        }

        private int conceal(Buffer buffer, Samples out) {
            int n = last.size();
            if (!out.hasRoom(n)) {
                return FULL;
            }
            lost++;
            lostInRow++;
            int divisor = 1 << lostInRow;
            for (int i = 0; i < n; i++) {
                // A division, as a shift would not round towards 0.
                out.add(last.get(i) / divisor);
            }
            expected += n;
            buffer.goOn();
            return n;
        }

        private int giveUp(Buffer buffer) {
            lost++;
            lostInRow = 0;
            buffer.comeToRest();
            return 0;
        }
    }
}
