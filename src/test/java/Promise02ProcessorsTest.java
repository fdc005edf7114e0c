/** Promise 2: how many processors there are. */
public final class Promise02ProcessorsTest {
    public static void main(String[] args) {
        for (int h = 1; h <= 4; h++) {
            Checks.same("processors of " + h, new SignalBoard(h).processors(), h);
        }
        for (int none : new int[] {0, -1, -4, 5, 9, Integer.MAX_VALUE, Integer.MIN_VALUE}) {
            Checks.same("processors of " + none, new SignalBoard(none).processors(), 1);
        }
        SignalBoard x = new SignalBoard(3);
        x.pass(1);
        x.write(Checks.TIMER, 0, 4, 1);
        Checks.same("processors later", x.processors(), 3);
        Checks.end();
    }
}
