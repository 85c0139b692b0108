/** Promise 15: sample. */
public final class P15SampleTest {
    public static void main(String[] args) {
        Check check = new Check();
        VoiceGateway g = new VoiceGateway();
        check.due("sample(0) of nothing", g.sample(0), 40000);
        Calls.bring(g, 0, 0, false, 32767, -32768, 0, -5);
        g.play();
        g.play();
        check.due("output", Calls.outputOf(g), "32767 -32768 0 -5 16383 -16384 0 -2");
        for (int i : new int[] {-1, 8, 9, 255, 256, Integer.MIN_VALUE, Integer.MAX_VALUE}) {
            check.due("sample(" + i + ")", g.sample(i), 40000);
        }
        g.pass(3);
        check.due("the first one then", g.sample(0), -5);
        check.due("the last one", g.sample(4), -2);
        check.due("none behind it", g.sample(5), 40000);

        VoiceGateway full = new VoiceGateway();
        for (int i = 0; i < 16; i++) {
            Calls.bring(full, i, 0, false, new int[] {i, 0, 0, 0, 0, 0, 0, 0, 0, 0, 0, 0, 0, 0, 0, -i});
            full.play();
        }
        check.due("sample(240)", full.sample(240), 15);
        check.due("sample(255)", full.sample(255), -15);
        check.due("sample(256)", full.sample(256), 40000);
        check.end();
    }
}
