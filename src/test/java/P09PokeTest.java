/** Promise 9: poke. */
public final class P09PokeTest {
    public static void main(String[] args) {
        Check check = new Check();
        VoiceGateway g = new VoiceGateway();
        check.due("poke(0, 0, 0) on an empty line", g.poke(0, 0, 0), false);
        Calls.sendOne(g, 3, 1);
        Calls.sendOne(g, 3, 2);
        check.due("poke(0, 0, 255)", g.poke(0, 0, 255), true);
        check.due("poke(1, 13, 0)", g.poke(1, 13, 0), true);
        check.due("poke(1, 12, 200)", g.poke(1, 12, 200), true);
        String poked = "128 11 0 1 0 0 0 1 0 0 0 0 200 0";
        check.due("first", Calls.bytes(g, 0), "255 11 0 0 0 0 0 0 0 0 0 0 0 1");
        check.due("second", Calls.bytes(g, 1), poked);
        int[][] wrong = {{2, 0, 1}, {-1, 0, 1}, {0, -1, 1}, {0, 14, 1}, {0, 43, 1}, {0, 44, 1}, {0, 0, -1}, {0, 0, 256},
            {Integer.MAX_VALUE, 0, 1}, {Integer.MIN_VALUE, 0, 1}, {0, Integer.MAX_VALUE, 1}, {0, Integer.MIN_VALUE, 1},
            {0, 0, Integer.MAX_VALUE}, {0, 0, Integer.MIN_VALUE}};
        String before = Calls.state(g);
        for (int[] w : wrong) {
            check.due("poke(" + w[0] + ", " + w[1] + ", " + w[2] + ")", g.poke(w[0], w[1], w[2]), false);
        }
        check.due("nothing has changed", Calls.state(g), before);
        check.due("the poked packet is refused", g.receive(), VoiceGateway.BAD);
        check.due("the other is not", g.receive(), 0);
        check.due("and is played", g.play(), 1);
        check.due("as it was poked", g.sample(0), -14336);

        VoiceGateway twice = new VoiceGateway();
        Calls.sendOne(twice, 3, 1);
        twice.disturb(0, 2);
        twice.poke(0, 13, 9);
        check.due("the poked one of two", twice.byteAt(0, 13), 9);
        check.due("its double", twice.byteAt(1, 13), 1);
        check.end();
    }
}
