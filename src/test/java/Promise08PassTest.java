/** Promise 8: TIME grows, and goes round. */
public final class Promise08PassTest {
    public static void main(String[] args) {
        SignalBoard x = new SignalBoard(1);
        long due = 0;
        for (long n : new long[] {0, 1, 100, 1L << 32, Long.MAX_VALUE, Long.MAX_VALUE, -1, Long.MIN_VALUE, 0xFFFFFFFFL}) {
            x.pass(n);
            due += n;
            Checks.same("TIME after " + n, x.read(Checks.TIMER, Checks.TIME, 8), due);
        }
        x.write(Checks.TIMER, Checks.TIME, 8, -2);
        x.pass(1);
        Checks.same("greatest", x.read(Checks.TIMER, Checks.TIME, 8), -1);
        Checks.same("line 7 at the greatest", x.line(0, 7), true);
        x.pass(1);
        Checks.same("round", x.read(Checks.TIMER, Checks.TIME, 8), 0);
        Checks.same("line 7 after it", x.line(0, 7), false);
        Checks.same("COMPARE is untouched", x.read(Checks.TIMER, Checks.COMPARE, 8), -1);
        Checks.end();
    }
}
