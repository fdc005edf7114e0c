/** Promise 1: a new object has 1 .. 4 processors, and all is as the Terms say for the start. */
public final class Promise01NewObjectTest {
    public static void main(String[] args) {
        for (int h = 1; h <= 4; h++) {
            startsAsTold(new SignalBoard(h), h);
        }
        for (int none : new int[] {0, -1, 5, 9, 1 << 16, 257, Integer.MAX_VALUE, Integer.MIN_VALUE}) {
            startsAsTold(new SignalBoard(none), 1);
        }
        objectsAreApart();
        Checks.end();
    }

    private static void startsAsTold(SignalBoard x, int count) {
        Checks.same("TIME", x.read(Checks.TIMER, Checks.TIME, 8), 0);
        for (int h = 0; h < 5; h++) {
            Checks.same("SOFT " + h, x.read(Checks.TIMER, 4L * h, 4), 0);
            Checks.same("COMPARE " + h, x.read(Checks.TIMER, Checks.COMPARE + 8L * h, 8), h < count ? -1L : 0);
        }
        for (int h = 0; h < count; h++) {
            for (int line : new int[] {3, 7, 9, 11}) {
                Checks.same("line " + line + " of " + h, x.line(h, line), false);
            }
        }
        Checks.refused("line of the next processor", () -> x.line(count, 3));
        Checks.same("waiting", Checks.load4(x, Checks.WAITING), 0);
        for (int s = 0; s < 32; s++) {
            Checks.same("priority " + s, Checks.load4(x, 4L * s), 0);
        }
        for (int c = 0; c < 2 * count; c++) {
            Checks.same("enables " + c, Checks.load4(x, Checks.enables(c)), 0);
            Checks.same("threshold " + c, Checks.load4(x, Checks.threshold(c)), 0);
            Checks.same("claim " + c, Checks.load4(x, Checks.claim(c)), 0);
        }
        int[] registers = {0, 0, 1, 0, 0, 96, 176, 0};
        for (int r = 0; r < 8; r++) {
            Checks.same("register " + r, Checks.load1(x, r), registers[r]);
        }
        Checks.same("room", x.room(), 1);
        Checks.same("sent", x.sent(), 0);
        Checks.same("out", x.out(0), -1);
    }

    private static void objectsAreApart() {
        SignalBoard one = new SignalBoard(2);
        SignalBoard two = new SignalBoard(2);
        one.pass(5);
        one.come(7);
        one.signal(4, true);
        Checks.same("TIME of the other", two.read(Checks.TIMER, Checks.TIME, 8), 0);
        Checks.same("room of the other", two.room(), 1);
        Checks.same("waiting of the other", Checks.load4(two, Checks.WAITING), 0);
    }
}
