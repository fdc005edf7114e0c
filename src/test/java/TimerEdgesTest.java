/** The edges that the document names for the timer, sentence by sentence. */
public final class TimerEdgesTest {
    public static void main(String[] args) {
        Checks.sentence("SOFT of processor h: 4 bytes at 4 h, of which only bit 0 counts (others are 0).", TimerEdgesTest::soft);
        Checks.sentence("COMPARE of h: 8 bytes at 16384 + 8 h, all bits 1 at first.", TimerEdgesTest::compare);
        Checks.sentence("TIME: 8 bytes at 49144, 0 at first.", TimerEdgesTest::time);
        Checks.sentence("Those of 8 bytes are read and written as a whole,", TimerEdgesTest::asAWhole);
        Checks.sentence("or by halves of 4 bytes (the lower one first).", TimerEdgesTest::byHalves);
        Checks.sentence("LINE 3 of h is on when its SOFT is 1;", TimerEdgesTest::line3);
        Checks.sentence("line 7 when TIME is at least its COMPARE.", TimerEdgesTest::line7);
        Checks.end();
    }

    private static void soft() {
        SignalBoard x = new SignalBoard(4);
        for (long h = 0; h < 4; h++) {
            for (long v : new long[] {1, 0, 3, 2, 0xFFFFFFFFL, 0xFFFFFFFEL, -1, -2, Long.MAX_VALUE, Long.MIN_VALUE}) {
                x.write(Checks.TIMER, 4 * h, 4, v);
                Checks.same("SOFT of " + h + " after " + v, x.read(Checks.TIMER, 4 * h, 4), v & 1);
            }
            x.write(Checks.TIMER, 4 * h, 4, h % 2);
        }
        for (long h = 0; h < 4; h++) {
            Checks.same("SOFT of " + h + " beside others", x.read(Checks.TIMER, 4 * h, 4), h % 2);
            for (int size : new int[] {1, 2, 8}) {
                Checks.same("SOFT of " + h + ", size " + size, x.read(Checks.TIMER, 4 * h, size), 0);
            }
        }
    }

    private static void compare() {
        for (int count = 1; count <= 4; count++) {
            SignalBoard x = new SignalBoard(count);
            for (long h = 0; h < count; h++) {
                Checks.same("COMPARE of " + h + " at first", x.read(Checks.TIMER, 16384 + 8 * h, 8), -1);
                x.write(Checks.TIMER, 16384 + 8 * h, 8, h);
            }
            for (long h = 0; h < count; h++) {
                Checks.same("COMPARE of " + h, x.read(Checks.TIMER, 16384 + 8 * h, 8), h);
            }
            Checks.same("before the first", x.read(Checks.TIMER, 16384 - 8, 8), 0);
            Checks.same("behind the last", x.read(Checks.TIMER, 16384 + 8L * count, 8), 0);
        }
    }

    private static void time() {
        SignalBoard x = new SignalBoard(4);
        Checks.same("TIME at first", x.read(Checks.TIMER, 49144, 8), 0);
        for (long v : new long[] {1, Long.MAX_VALUE, Long.MIN_VALUE, -1, 0}) {
            x.write(Checks.TIMER, 49144, 8, v);
            Checks.same("TIME", x.read(Checks.TIMER, 49144, 8), v);
        }
        x.write(Checks.TIMER, 49144, 8, -1);
        Checks.same("before it", x.read(Checks.TIMER, 49136, 8), 0);
        Checks.same("behind it", x.read(Checks.TIMER, 49152, 8), 0);
    }

    private static void asAWhole() {
        SignalBoard x = new SignalBoard(2);
        for (long at : new long[] {Checks.COMPARE, Checks.COMPARE + 8, Checks.TIME}) {
            x.write(Checks.TIMER, at, 8, 0x8000000180000002L);
            Checks.same("whole at " + at, x.read(Checks.TIMER, at, 8), 0x8000000180000002L);
            for (int amid = 1; amid < 8; amid++) {
                x.write(Checks.TIMER, at + amid, 8, 0);
                Checks.same("whole at " + at + " + " + amid, x.read(Checks.TIMER, at + amid, 8), 0);
            }
            for (int size : new int[] {1, 2}) {
                x.write(Checks.TIMER, at, size, 0);
                Checks.same("size " + size + " at " + at, x.read(Checks.TIMER, at, size), 0);
            }
            Checks.same("whole at " + at + " stays", x.read(Checks.TIMER, at, 8), 0x8000000180000002L);
        }
    }

    private static void byHalves() {
        SignalBoard x = new SignalBoard(2);
        for (long at : new long[] {Checks.COMPARE, Checks.COMPARE + 8, Checks.TIME}) {
            x.write(Checks.TIMER, at, 8, 0x8000000180000002L);
            Checks.same("lower half of " + at, x.read(Checks.TIMER, at, 4), 0x80000002L);
            Checks.same("upper half of " + at, x.read(Checks.TIMER, at + 4, 4), 0x80000001L);
            x.write(Checks.TIMER, at, 4, -1);
            Checks.same("lower half of " + at + " written", x.read(Checks.TIMER, at, 8), 0x80000001FFFFFFFFL);
            x.write(Checks.TIMER, at + 4, 4, Long.MIN_VALUE | 7);
            Checks.same("upper half of " + at + " written", x.read(Checks.TIMER, at, 8), 0x00000007FFFFFFFFL);
            for (int amid : new int[] {1, 2, 3, 5, 6, 7}) {
                x.write(Checks.TIMER, at + amid, 4, 0);
                Checks.same("half at " + at + " + " + amid, x.read(Checks.TIMER, at + amid, 4), 0);
            }
            Checks.same("halves of " + at + " stay", x.read(Checks.TIMER, at, 8), 0x00000007FFFFFFFFL);
        }
    }

    private static void line3() {
        SignalBoard x = new SignalBoard(4);
        for (int h = 0; h < 4; h++) {
            Checks.same("SOFT of " + h + " is 0 at first", x.line(h, 3), false);
            x.write(Checks.TIMER, 4L * h, 4, 1);
            for (int other = 0; other < 4; other++) {
                Checks.same("line 3 of " + other + ", SOFT of " + h + " is 1", x.line(other, 3), other == h);
            }
            x.write(Checks.TIMER, 4L * h, 4, 0xFFFFFFFEL);
            Checks.same("SOFT of " + h + " is 0 again", x.line(h, 3), false);
        }
    }

    private static void line7() {
        SignalBoard x = new SignalBoard(4);
        for (int h = 0; h < 4; h++) {
            long at = Checks.COMPARE + 8L * h;
            lookAtLine7(x, h, at, 0, -1, false);
            lookAtLine7(x, h, at, -2, -1, false);
            lookAtLine7(x, h, at, -1, -1, true);
            lookAtLine7(x, h, at, 0, 0, true);
            lookAtLine7(x, h, at, 0, 1, false);
            lookAtLine7(x, h, at, 1, 1, true);
            lookAtLine7(x, h, at, 2, 1, true);
            lookAtLine7(x, h, at, 0xFFFFFFFFL, 1L << 32, false);
            lookAtLine7(x, h, at, 1L << 32, 1L << 32, true);
            lookAtLine7(x, h, at, Long.MAX_VALUE, Long.MIN_VALUE, false);
            lookAtLine7(x, h, at, Long.MIN_VALUE, Long.MAX_VALUE, true);
            lookAtLine7(x, h, at, Long.MIN_VALUE, Long.MIN_VALUE, true);
            x.write(Checks.TIMER, at, 8, -1);
        }
        x.write(Checks.TIMER, Checks.TIME, 8, 10);
        x.write(Checks.TIMER, Checks.COMPARE + 16, 8, 10);
        for (int h = 0; h < 4; h++) {
            Checks.same("line 7 of " + h + ", only COMPARE of 2 is reached", x.line(h, 7), h == 2);
        }
    }

    private static void lookAtLine7(SignalBoard x, int h, long at, long time, long compare, boolean due) {
        x.write(Checks.TIMER, at, 8, compare);
        x.write(Checks.TIMER, Checks.TIME, 8, time);
        String what = "TIME " + Long.toUnsignedString(time) + ", COMPARE of " + h + " " + Long.toUnsignedString(compare);
        Checks.same(what, x.line(h, 7), due);
    }
}
