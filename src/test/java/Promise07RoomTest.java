/** Promise 7: how many bytes more there is room for in IN. */
public final class Promise07RoomTest {
    public static void main(String[] args) {
        SignalBoard x = new SignalBoard(1);
        Checks.same("empty", x.room(), 1);
        x.come(1);
        Checks.same("full", x.room(), 0);
        x.come(2);
        Checks.same("full, overrun", x.room(), 0);
        Checks.load1(x, 0);
        Checks.same("empty again", x.room(), 1);
        Checks.load1(x, 0);
        Checks.same("nothing to take", x.room(), 1);

        Checks.store1(x, 2, 1);
        for (int i = 0; i < 20; i++) {
            Checks.same("with " + i, x.room(), Math.max(0, 16 - i));
            x.come(i);
        }
        for (int i = 0; i < 20; i++) {
            Checks.same("without " + i, x.room(), Math.min(16, i));
            Checks.load1(x, 0);
        }
        Checks.store1(x, 4, 16);
        Checks.store1(x, 0, 1);
        Checks.same("looped", x.room(), 15);
        Checks.store1(x, 2, 0);
        Checks.same("no queue", x.room(), 1);
        Checks.end();
    }
}
