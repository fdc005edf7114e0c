/** Promise 9: when the lines 3, 7, 9 and 11 of each processor are on. */
public final class Promise09LineTest {
    public static void main(String[] args) {
        refusesWrongInput();
        softLine();
        timeLine();
        contextLines();
        followsThresholdAndPriority();
        serialLine();
        Checks.end();
    }

    private static void refusesWrongInput() {
        for (int count = 1; count <= 4; count++) {
            SignalBoard x = new SignalBoard(count);
            for (int line : new int[] {3, 7, 9, 11}) {
                for (int none : new int[] {-1, count, count + 1, 256, Integer.MIN_VALUE, Integer.MAX_VALUE}) {
                    Checks.refused("line of " + none, () -> x.line(none, line));
                }
            }
            for (int line = -2; line < 40; line++) {
                int asked = line;
                if (line == 3 || line == 7 || line == 9 || line == 11) {
                    Checks.same("line " + line, x.line(count - 1, line), false);
                } else {
                    Checks.refused("line " + line, () -> x.line(0, asked));
                }
            }
            Checks.refused("line far", () -> x.line(0, 256 + 3));
            Checks.refused("line least", () -> x.line(0, Integer.MIN_VALUE + 3));
        }
    }

    private static void softLine() {
        SignalBoard x = new SignalBoard(4);
        for (int h = 0; h < 4; h++) {
            x.write(Checks.TIMER, 4L * h, 4, 1);
            for (int other = 0; other < 4; other++) {
                Checks.same("line 3 of " + other, x.line(other, 3), other == h);
                Checks.same("line 7 of " + other, x.line(other, 7), false);
            }
            x.write(Checks.TIMER, 4L * h, 4, 2);
        }
    }

    private static void timeLine() {
        SignalBoard x = new SignalBoard(4);
        for (int h = 0; h < 4; h++) {
            x.write(Checks.TIMER, Checks.COMPARE + 8L * h, 8, 10 + h);
        }
        for (int time = 0; time < 16; time++) {
            for (int h = 0; h < 4; h++) {
                Checks.same("line 7 of " + h + " at " + time, x.line(h, 7), time >= 10 + h);
            }
            x.pass(1);
        }
        x.write(Checks.TIMER, Checks.COMPARE, 8, Long.MIN_VALUE);
        Checks.same("COMPARE has no sign", x.line(0, 7), false);
        x.write(Checks.TIMER, Checks.TIME, 8, Long.MAX_VALUE);
        Checks.same("just below", x.line(0, 7), false);
        x.pass(1);
        Checks.same("just there", x.line(0, 7), true);
        Checks.same("TIME has no sign", x.line(1, 7), true);
        x.write(Checks.TIMER, Checks.COMPARE + 8, 8, -1);
        Checks.same("COMPARE was set anew", x.line(1, 7), false);
        x.write(Checks.TIMER, Checks.COMPARE + 8, 8, 0);
        Checks.same("COMPARE 0", x.line(1, 7), true);
    }

    private static void contextLines() {
        SignalBoard x = new SignalBoard(4);
        x.signal(17, true);
        Checks.store4(x, 68, 1);
        for (int c = 0; c < 8; c++) {
            Checks.store4(x, Checks.enables(c), 1 << 17);
            for (int h = 0; h < 4; h++) {
                Checks.same("line 11 of " + h, x.line(h, 11), 2 * h == c);
                Checks.same("line 9 of " + h, x.line(h, 9), 2 * h + 1 == c);
            }
            Checks.store4(x, Checks.enables(c), ~(1 << 17));
        }
    }

    private static void followsThresholdAndPriority() {
        SignalBoard x = new SignalBoard(1);
        Checks.store4(x, Checks.enables(0), 1 << 5 | 1 << 6);
        x.signal(5, true);
        for (int priority = 0; priority < 8; priority++) {
            for (int threshold = 0; threshold < 8; threshold++) {
                Checks.store4(x, 20, priority);
                Checks.store4(x, Checks.threshold(0), threshold);
                Checks.same("line 11 at " + priority + ", " + threshold, x.line(0, 11), priority > threshold);
            }
        }
        Checks.store4(x, 20, 2);
        Checks.store4(x, 24, 6);
        Checks.store4(x, Checks.threshold(0), 5);
        Checks.same("too low", x.line(0, 11), false);
        x.signal(6, true);
        Checks.same("one is above", x.line(0, 11), true);
        x.signal(6, false);
        Checks.same("it goes on to wait", x.line(0, 11), true);
        Checks.load4(x, Checks.claim(0));
        Checks.same("claimed", x.line(0, 11), false);
        Checks.store4(x, Checks.threshold(0), 1);
        Checks.same("the other one", x.line(0, 11), true);
        Checks.same("asking changes nothing", Checks.load4(x, Checks.WAITING), 1 << 5);
    }

    private static void serialLine() {
        SignalBoard x = new SignalBoard(2);
        Checks.store4(x, 40, 7);
        Checks.store4(x, Checks.enables(3), 1 << 10);
        Checks.store1(x, 1, 1);
        Checks.same("nothing came", x.line(1, 9), false);
        x.come(1);
        Checks.same("a byte came", x.line(1, 9), true);
        Checks.same("not for others", x.line(1, 11), false);
    }
}
