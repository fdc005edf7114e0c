/** Promise 6: bytes come on the serial line. */
public final class Promise06ComeTest {
    public static void main(String[] args) {
        oneWithoutQueue();
        sixteenWithQueue();
        drivesSourceTen();
        Checks.end();
    }

    private static void oneWithoutQueue() {
        SignalBoard x = new SignalBoard(1);
        for (int b : new int[] {0, 65, 255, 256, 511, -1, Integer.MIN_VALUE, Integer.MAX_VALUE}) {
            Checks.same("come " + b, x.come(b), true);
            Checks.same("no overrun", Checks.load1(x, 5), 97);
            Checks.same("no room", x.come(7), false);
            Checks.same("overrun", Checks.load1(x, 5), 99);
            Checks.same("byte of " + b, Checks.load1(x, 0), b & 255);
            Checks.same("the other is lost", Checks.load1(x, 5), 96);
        }
    }

    private static void sixteenWithQueue() {
        SignalBoard x = new SignalBoard(1);
        Checks.store1(x, 2, 1);
        for (int i = 0; i < 16; i++) {
            Checks.same("come", x.come(i * 16), true);
        }
        Checks.same("no room", x.come(1), false);
        Checks.same("overrun", Checks.load1(x, 5), 99);
        Checks.same("first", Checks.load1(x, 0), 0);
        Checks.same("room again", x.come(2), true);
        Checks.same("no room again", x.come(3), false);
        for (int i = 1; i < 16; i++) {
            Checks.same("in order", Checks.load1(x, 0), i * 16);
        }
        Checks.same("last", Checks.load1(x, 0), 2);
        Checks.same("empty", Checks.load1(x, 0), 0);
    }

    private static void drivesSourceTen() {
        SignalBoard x = new SignalBoard(1);
        x.come(1);
        Checks.same("not enabled", Checks.load4(x, Checks.WAITING), 0);
        Checks.load1(x, 0);
        Checks.store1(x, 1, 1);
        Checks.same("IN is empty", Checks.load4(x, Checks.WAITING), 0);
        x.come(1);
        Checks.same("a byte came", Checks.load4(x, Checks.WAITING), 1 << 10);
        Checks.load1(x, 0);
        Checks.same("goes on to wait", Checks.load4(x, Checks.WAITING), 1 << 10);

        Checks.store4(x, 40, 1);
        Checks.store4(x, Checks.enables(0), 1 << 10);
        Checks.same("claim", Checks.load4(x, Checks.claim(0)), 10);
        x.come(1);
        Checks.load1(x, 0);
        Checks.store4(x, Checks.claim(0), 10);
        Checks.same("the signal is off", Checks.load4(x, Checks.WAITING), 0);
        Checks.store1(x, 1, 4);
        x.come(1);
        Checks.same("no overrun", Checks.load4(x, Checks.WAITING), 0);
        x.come(1);
        Checks.same("overrun", Checks.load4(x, Checks.WAITING), 1 << 10);
        Checks.load4(x, Checks.claim(0));
        Checks.load1(x, 5);
        Checks.store4(x, Checks.claim(0), 10);
        Checks.same("overrun no more", Checks.load4(x, Checks.WAITING), 0);
        Checks.store1(x, 1, 2);
        Checks.same("emptied", Checks.load4(x, Checks.WAITING), 1 << 10);
        Checks.load4(x, Checks.claim(0));
        Checks.load1(x, 2);
        Checks.store4(x, Checks.claim(0), 10);
        Checks.same("emptied no more", Checks.load4(x, Checks.WAITING), 0);
        Checks.store1(x, 0, 1);
        Checks.same("sent", Checks.load4(x, Checks.WAITING), 1 << 10);
    }
}
