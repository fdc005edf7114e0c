/** Promise 10: how many bytes were sent in all. */
public final class Promise10SentTest {
    public static void main(String[] args) {
        SignalBoard x = new SignalBoard(1);
        for (int i = 0; i < 500; i++) {
            Checks.store1(x, 0, i);
        }
        Checks.same("sent", x.sent(), 500);
        Checks.same("asking changes nothing", x.sent(), 500);

        SignalBoard y = new SignalBoard(1);
        Checks.store1(y, 0, 1);
        y.come(5);
        Checks.load1(y, 0);
        y.write(Checks.SERIAL, 0, 4, 5);
        Checks.store1(y, 3, 128);
        Checks.store1(y, 0, 5);
        Checks.store1(y, 3, 0);
        Checks.store1(y, 4, 16);
        Checks.store1(y, 0, 5);
        Checks.same("only what is out", y.sent(), 1);
        Checks.store1(y, 4, 0);
        Checks.store1(y, 0, 5);
        Checks.same("one more", y.sent(), 2);
        Checks.end();
    }
}
