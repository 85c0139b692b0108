/** Promise 7: line. */
public final class P07LineTest {
    public static void main(String[] args) {
        Check check = new Check();
        VoiceGateway g = new VoiceGateway();
        check.due("line()", g.line(), 0);
        for (int n = 1; n <= 8; n++) {
            Calls.sendOne(g, 3, n);
            check.due("line() with " + n, g.line(), n);
        }
        g.feed(0);
        g.send(0, 1, false);
        check.due("line() when full", g.line(), 8);
        g.receive();
        check.due("line() after receive", g.line(), 7);
        g.disturb(0, 0);
        check.due("line() after a loss", g.line(), 6);
        g.disturb(0, 1);
        check.due("line() after an exchange", g.line(), 6);
        g.disturb(0, 2);
        check.due("line() after a doubling", g.line(), 7);
        g.disturb(0, 3);
        check.due("line() after damage", g.line(), 7);
        Calls.receiveAll(g);
        check.due("line() at last", g.line(), 0);
        g.receive();
        check.due("line() when nothing was to be taken", g.line(), 0);
        check.end();
    }
}
