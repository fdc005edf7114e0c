/** Promise 11: the bytes that were sent. */
public final class Promise11OutTest {
    public static void main(String[] args) {
        SignalBoard x = new SignalBoard(1);
        Checks.same("none yet", x.out(0), -1);
        for (int i = 0; i < 256; i++) {
            Checks.store1(x, 0, 255 - i);
        }
        for (int k = 0; k < 200; k++) {
            Checks.same("out " + k, x.out(k), 255 - k);
        }
        Checks.same("last", x.out(255), 0);
        for (long none : new long[] {-1, 256, 257, 1L << 32, Long.MAX_VALUE, Long.MIN_VALUE, Long.MIN_VALUE + 1}) {
            Checks.same("out " + none, x.out(none), -1);
        }
        keepsTheLatest();
        Checks.end();
    }

    /** The document leaves open what an object answers after 512 calls; this is what this one does. */
    private static void keepsTheLatest() {
        SignalBoard x = new SignalBoard(1);
        for (int i = 0; i < 4096; i++) {
            Checks.store1(x, 0, i / 16);
        }
        Checks.same("the first is kept", x.out(0), 0);
        Checks.same("the last", x.out(4095), 255);
        for (int i = 0; i < 32; i++) {
            Checks.store1(x, 0, 100 + i);
        }
        Checks.same("kept no more", x.out(0), -1);
        Checks.same("kept no more", x.out(31), -1);
        Checks.same("the first that is kept", x.out(32), 2);
        Checks.same("the last but one", x.out(4126), 130);
        Checks.same("the last", x.out(4127), 131);
        Checks.same("not yet", x.out(4128), -1);
    }
}
