import java.util.List;
import java.util.function.Consumer;
import java.util.function.Function;
import java.util.function.Predicate;
import java.util.function.ToIntFunction;

/**
 * For calls that must change nothing: of two objects with the same past only one gets the call, and both must
 * answer alike from then on. An object is promised for 512 calls only, so each look gets twins of its own.
 */
final class Twins {
    private static final List<Function<VoiceGateway, String>> LOOKS = List.of(
            Calls::lineOf, Calls::outputOf, Twins::inputAndSender, Twins::whatIsPlayed, Twins::sourceAndPrefill);

    private Twins() {
    }

    /** The call is answered as wanted and changes nothing. */
    static void due(Check check, String call, int want, Consumer<VoiceGateway> past, ToIntFunction<VoiceGateway> asked) {
        look(check, call, want, asked, past, past, Calls::figures);
        for (Function<VoiceGateway, String> seen : LOOKS) {
            look(check, call, want, asked, past, past, seen);
        }
    }

    static void dueFalse(Check check, String call, Consumer<VoiceGateway> past, Predicate<VoiceGateway> asked) {
        due(check, call, 0, past, g -> asked.test(g) ? 1 : 0);
    }

    /** The first packet on the line is refused by receive(): as if it had been lost, but for the count of it. */
    static void dueRefused(Check check, String packet, int want, int counted, Consumer<VoiceGateway> past) {
        Consumer<VoiceGateway> lost = past.andThen(g -> g.disturb(0, 0));
        look(check, packet, want, VoiceGateway::receive, past, lost, g -> figuresBut(g, counted));
        for (Function<VoiceGateway, String> seen : LOOKS) {
            look(check, packet, want, VoiceGateway::receive, past, lost, seen);
        }
        VoiceGateway g = new VoiceGateway();
        past.accept(g);
        int before = g.figure(counted);
        g.receive();
        check.due(packet + ", counted", g.figure(counted), before + 1);
    }

    private static void look(Check check, String call, int want, ToIntFunction<VoiceGateway> asked,
            Consumer<VoiceGateway> past, Consumer<VoiceGateway> otherPast, Function<VoiceGateway, String> seen) {
        VoiceGateway with = new VoiceGateway();
        VoiceGateway without = new VoiceGateway();
        past.accept(with);
        otherPast.accept(without);
        check.due(call, asked.applyAsInt(with), want);
        check.due("what comes behind " + call, seen.apply(with), seen.apply(without));
    }

    private static String figuresBut(VoiceGateway g, int left) {
        StringBuilder text = new StringBuilder();
        for (int k = 0; k <= 12; k++) {
            text.append(k == left ? "-" : String.valueOf(g.figure(k))).append(" ");
        }
        return text.toString();
    }

    /** Sends what the input has; the packets tell of the next sequence, time and source too. */
    private static String inputAndSender(VoiceGateway g) {
        StringBuilder text = new StringBuilder();
        Calls.loseLine(g);
        for (int n : new int[] {16, 16, 16, 16, 8, 4, 2, 1}) {
            if (g.send(3, n, false) > 0) {
                text.append(Calls.lineOf(g));
                g.disturb(0, 0);
            }
        }
        Calls.sendOne(g, 2, 50, 60);
        return text.append(Calls.lineOf(g)).toString();
    }

    /** Plays until the buffer comes to rest; the samples tell of the last ones, the jumps of the expected time. */
    private static String whatIsPlayed(VoiceGateway g) {
        StringBuilder text = new StringBuilder();
        Calls.loseOutput(g);
        for (int i = 0; i < 14; i++) {
            text.append(g.play()).append(" ");
        }
        return text + "state " + g.figure(0) + ", lost " + g.figure(8) + ", jumps " + g.figure(9)
                + ", output " + Calls.outputOf(g);
    }

    private static String sourceAndPrefill(VoiceGateway g) {
        StringBuilder text = new StringBuilder();
        Calls.loseOutput(g);
        int next = Math.max(0, g.figure(2));
        // Those that the pasts use for the source of all, and for another one.
        for (int source : new int[] {0, 1, 5, 255, 256}) {
            g.begin(next, 0, source);
            Calls.sendOne(g, 3, 1);
            text.append(g.receive()).append(" ");
        }
        Calls.playTimes(g, 14);
        Calls.sendRun(g, 100, 4);
        for (int i = 0; i < 4; i++) {
            text.append(g.receive()).append(" ").append(g.play()).append(" ");
        }
        return text.toString();
    }
}
