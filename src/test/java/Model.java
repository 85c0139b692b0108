import java.util.ArrayList;
import java.util.Arrays;
import java.util.HashMap;
import java.util.List;
import java.util.Map;

/**
 * The document once more, word by word and without care for speed or room, to compare long runs with.
 * It shares no code with the program, and searches where the program computes.
 */
final class Model {
    static final int[] STEPS = Arrays.stream(("7 8 9 10 11 12 13 14 16 17 19 21 23 25 28 31 34 37 41 45 50 55 60 "
            + "66 73 80 88 97 107 118 130 143 157 173 190 209 230 253 279 307 337 371 408 449 494 544 598 658 724 796 876 "
            + "963 1060 1166 1282 1411 1552 1707 1878 2066 2272 2499 2749 3024 3327 3660 4026 4428 4871 5358 5894 6484 "
            + "7132 7845 8630 9493 10442 11487 12635 13899 15289 16818 18500 20350 22385 24623 27086 29794 32767")
            .split(" ")).mapToInt(Integer::parseInt).toArray();
    private static final List<Integer> TYPES = List.of(8, 0, 5, 11);

    private final List<Integer> input = new ArrayList<>();
    private final List<Integer> output = new ArrayList<>();
    private final List<List<Integer>> line = new ArrayList<>();
    private final Map<Integer, List<Integer>> buffer = new HashMap<>();
    private final int[] figures = new int[13];
    private int[] adaptive = {0, 0};
    private int time = 0;
    private int source = 0;
    private int prefill = 1;
    private int sourceOfAll = 0;
    private int expected = 0;
    private boolean playedBefore = false;
    private int lostOneAfterTheOther = 0;
    private List<Integer> last = new ArrayList<>();

    Model() {
        figures[2] = -1;
    }

    private static int beginOf(int coding, int s, int k) {
        return coding == 0 && s == 0 ? 16 * k : (16 + k) * (int) Math.pow(2, s + 3);
    }

    private static int endOf(int coding, int s, int k) {
        if (s == 7 && k == 15) {
            return 32768;
        }
        return k == 15 ? beginOf(coding, s + 1, 0) : beginOf(coding, s, k + 1);
    }

    int compress(int coding, int x) {
        if (coding != 0 && coding != 1 || x < -32768 || x > 32767) {
            return -1;
        }
        int m = coding == 1 ? Math.min(Math.abs(x), 32635) + 132 : x < 0 ? -x - 1 : x;
        for (int s = 0; s <= 7; s++) {
            for (int k = 0; k <= 15; k++) {
                if (beginOf(coding, s, k) <= m && m < endOf(coding, s, k)) {
                    int code = 16 * s + k;
                    return coding == 0 ? code + (x >= 0 ? 128 : 0) ^ 85 : 255 - code - (x < 0 ? 128 : 0);
                }
            }
        }
        throw new IllegalStateException("no interval has " + m);
    }

    int expand(int coding, int code) {
        if (coding != 0 && coding != 1 || code < 0 || code > 255) {
            return 40000;
        }
        for (int s = 0; s <= 7; s++) {
            for (int k = 0; k <= 15; k++) {
                int middle = (beginOf(coding, s, k) + endOf(coding, s, k)) / 2;
                if (coding == 0 && (code ^ 85) % 128 == 16 * s + k) {
                    return (code ^ 85) >= 128 ? middle : -middle;
                }
                if (coding == 1 && (255 - code) % 128 == 16 * s + k) {
                    return code < 128 ? -(middle - 132) : middle - 132;
                }
            }
        }
        throw new IllegalStateException("no interval has code " + code);
    }

    boolean feed(int x) {
        return x >= -32768 && x <= 32767 && input.size() < 64 && input.add(x);
    }

    boolean begin(int sequence, int newTime, int newSource) {
        if (sequence < 0 || sequence > 65535) {
            return false;
        }
        figures[12] = sequence;
        time = newTime;
        source = newSource;
        return true;
    }

    static int halfByte(int[] state, int x) {
        int t = STEPS[state[1]];
        int r = Math.abs(x - state[0]);
        int code = x < state[0] ? 8 : 0;
        int[] parts = {t, t / 2, t / 4};
        for (int i = 0; i < 3; i++) {
            if (r >= parts[i]) {
                code |= 4 >> i;
                r -= parts[i];
            }
        }
        return code;
    }

    static int[] changed(int[] state, int code) {
        int t = STEPS[state[1]];
        int by = t / 8 + code / 4 % 2 * t + code / 2 % 2 * (t / 2) + code % 2 * (t / 4);
        int value = Math.max(-32768, Math.min(32767, state[0] + (code >= 8 ? -by : by)));
        int[] changes = {-1, -1, -1, -1, 2, 4, 6, 8};
        return new int[] {value, Math.max(0, Math.min(88, state[1] + changes[code % 8]))};
    }

    private static void addNumber(List<Integer> bytes, long number, int n) {
        for (int i = n - 1; i >= 0; i--) {
            bytes.add((int) Math.floorMod(Math.floorDiv(number, (long) Math.pow(256, i)), 256L));
        }
    }

    int send(int coding, int n, boolean mark) {
        if (coding < 0 || coding > 3 || n < 1 || n > 16 || coding == 2 && n % 2 == 1) {
            return -1;
        }
        if (input.size() < n) {
            return -2;
        }
        if (line.size() == 8) {
            return -3;
        }
        List<Integer> bytes = new ArrayList<>(List.of(128, TYPES.get(coding) + (mark ? 128 : 0)));
        addNumber(bytes, figures[12], 2);
        addNumber(bytes, time, 4);
        addNumber(bytes, source, 4);
        if (coding == 2) {
            addNumber(bytes, adaptive[0], 2);
            bytes.add(adaptive[1]);
            bytes.add(0);
        }
        for (int i = 0; i < n; i++) {
            int x = input.remove(0);
            if (coding == 2) {
                int code = halfByte(adaptive, x);
                adaptive = changed(adaptive, code);
                if (i % 2 == 0) {
                    bytes.add(code * 16);
                } else {
                    bytes.set(bytes.size() - 1, bytes.get(bytes.size() - 1) + code);
                }
            } else if (coding == 3) {
                addNumber(bytes, x, 2);
            } else {
                bytes.add(compress(coding, x));
            }
        }
        line.add(bytes);
        figures[12] = figures[12] == 65535 ? 0 : figures[12] + 1;
        time += n;
        return bytes.size();
    }

    int line() {
        return line.size();
    }

    private boolean hasByte(int k, int i) {
        return k >= 0 && k < line.size() && i >= 0 && i < line.get(k).size();
    }

    int byteAt(int k, int i) {
        return hasByte(k, i) ? line.get(k).get(i) : -1;
    }

    boolean poke(int k, int i, int b) {
        if (!hasByte(k, i) || b < 0 || b > 255) {
            return false;
        }
        line.get(k).set(i, b);
        return true;
    }

    boolean disturb(int k, int how) {
        if (k < 0 || k >= line.size()) {
            return false;
        }
        if (how == 0) {
            line.remove(k);
            return true;
        }
        if (how == 1 && k < line.size() - 1) {
            line.add(k + 1, line.remove(k));
            return true;
        }
        if (how == 2 && line.size() < 8) {
            return line.add(new ArrayList<>(line.get(k)));
        }
        if (how == 3 && !line.get(k).isEmpty()) {
            line.get(k).remove(line.get(k).size() - 1);
            return true;
        }
        return false;
    }

    private static long number(List<Integer> bytes, int from, int n) {
        long number = 0;
        for (int i = from; i < from + n; i++) {
            number = number * 256 + bytes.get(i);
        }
        return number;
    }

    /** The samples of a packet; null when it is not as it must be. */
    private List<Integer> samples(List<Integer> bytes) {
        if (bytes.size() < 13 || bytes.get(0) != 128) {
            return null;
        }
        List<Integer> samples = new ArrayList<>();
        List<Integer> body = bytes.subList(12, bytes.size());
        int coding = TYPES.indexOf(bytes.get(1) % 128);
        if (coding == 0 || coding == 1) {
            body.forEach(b -> samples.add(expand(coding, b)));
        } else if (coding == 3 && body.size() % 2 == 0) {
            for (int i = 0; i < body.size(); i += 2) {
                samples.add((int) (short) number(body, i, 2));
            }
        } else if (coding == 2 && body.size() > 4 && body.get(2) <= 88 && body.get(3) == 0) {
            int[] state = {(short) number(body, 0, 2), body.get(2)};
            for (int b : body.subList(4, body.size())) {
                state = changed(state, b / 16);
                samples.add(state[0]);
                state = changed(state, b % 16);
                samples.add(state[0]);
            }
        }
        return samples.isEmpty() || samples.size() > 16 ? null : samples;
    }

    int receive() {
        if (line.isEmpty()) {
            return -2;
        }
        List<Integer> bytes = line.remove(0);
        if (samples(bytes) == null) {
            figures[3]++;
            return -1;
        }
        int sequence = (int) number(bytes, 2, 2);
        int from = (int) number(bytes, 8, 4);
        if (figures[0] == 0) {
            figures[0] = 1;
            figures[2] = sequence;
            sourceOfAll = from;
        }
        if (from != sourceOfAll) {
            figures[7]++;
            return -7;
        }
        int distance = (short) (sequence - figures[2]);
        if (distance < 0 || distance > 7) {
            figures[distance < 0 ? 4 : 5]++;
            return distance < 0 ? -4 : -5;
        }
        if (buffer.putIfAbsent(sequence, bytes) != null) {
            figures[6]++;
            return -6;
        }
        return distance;
    }

    boolean prefill(int n) {
        if (n >= 1 && n <= 4) {
            prefill = n;
            return true;
        }
        return false;
    }

    int play() {
        if (figures[0] == 0 || figures[0] == 1 && buffer.size() < prefill) {
            return -2;
        }
        List<Integer> bytes = buffer.get(figures[2]);
        if (bytes == null && lostOneAfterTheOther == 4) {
            figures[8]++;
            figures[0] = 0;
            figures[2] = -1;
            buffer.clear();
            playedBefore = false;
            lostOneAfterTheOther = 0;
            return 0;
        }
        List<Integer> put = bytes == null ? last : samples(bytes);
        if (output.size() + put.size() > 256) {
            return -3;
        }
        if (bytes == null) {
            figures[8]++;
            lostOneAfterTheOther++;
            last.forEach(x -> output.add((int) (x / Math.pow(2, lostOneAfterTheOther))));
            expected += put.size();
        } else {
            int at = (int) number(bytes, 4, 4);
            if (bytes.get(1) < 128 && playedBefore && at != expected) {
                figures[9]++;
            }
            expected = at + put.size();
            playedBefore = true;
            lostOneAfterTheOther = 0;
            last = put;
            output.addAll(put);
            buffer.remove(figures[2]);
        }
        figures[0] = 2;
        figures[2] = figures[2] == 65535 ? 0 : figures[2] + 1;
        return put.size();
    }

    int output() {
        return output.size();
    }

    int sample(int i) {
        return i >= 0 && i < output.size() ? output.get(i) : 40000;
    }

    boolean pass(int n) {
        if (n < 0 || n > output.size() || n + input.size() > 64) {
            return false;
        }
        for (int i = 0; i < n; i++) {
            input.add(output.remove(0));
        }
        return true;
    }

    int figure(int k) {
        if (k < 0 || k > 12) {
            return -1;
        }
        if (k == 1) {
            return buffer.size();
        }
        return k == 10 || k == 11 ? adaptive[k - 10] : figures[k];
    }
}
