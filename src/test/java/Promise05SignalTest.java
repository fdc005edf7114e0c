/** Promise 5: signals go on and off, and sources wait for them. */
public final class Promise05SignalTest {
    public static void main(String[] args) {
        SignalBoard x = new SignalBoard(1);
        for (int none : new int[] {0, 10, 32, 33, 42, -1, -22, Integer.MIN_VALUE, Integer.MAX_VALUE}) {
            Checks.refused("signal on " + none, () -> x.signal(none, true));
            Checks.refused("signal off " + none, () -> x.signal(none, false));
        }
        Checks.same("nothing waits", Checks.load4(x, Checks.WAITING), 0);

        long due = 0;
        for (int s = 1; s < 32; s++) {
            if (s != 10) {
                x.signal(s, false);
                Checks.same("off makes nothing wait", Checks.load4(x, Checks.WAITING), due);
                x.signal(s, true);
                due |= 1L << s;
                Checks.same("waits " + s, Checks.load4(x, Checks.WAITING), due);
                x.signal(s, false);
                Checks.same("goes on to wait " + s, Checks.load4(x, Checks.WAITING), due);
            }
        }
        servedSourcesDoNotWait();
        Checks.end();
    }

    private static void servedSourcesDoNotWait() {
        SignalBoard x = new SignalBoard(1);
        Checks.store4(x, 8, 1);
        Checks.store4(x, Checks.enables(1), 4);
        x.signal(2, true);
        Checks.same("claim", Checks.load4(x, Checks.claim(1)), 2);
        x.signal(2, false);
        x.signal(2, true);
        Checks.same("served", Checks.load4(x, Checks.WAITING), 0);
        x.signal(3, true);
        Checks.same("another waits", Checks.load4(x, Checks.WAITING), 8);
        Checks.store4(x, Checks.claim(1), 2);
        Checks.same("completed, and on", Checks.load4(x, Checks.WAITING), 12);
    }
}
