/** The edges that the document names for the controller, sentence by sentence. */
public final class ControllerEdgesTest {
    public static void main(String[] args) {
        Checks.sentence("SOURCES are 1 .. 31;", ControllerEdgesTest::sources);
        Checks.sentence("each has a SIGNAL, on or off, a PRIORITY 0 .. 7,", ControllerEdgesTest::priorities);
        Checks.sentence("As soon as a source's signal is on, and it neither waits nor is served, it waits",
            ControllerEdgesTest::waitsAtOnce);
        Checks.sentence("(and goes on to wait, also when the signal goes off).", ControllerEdgesTest::goesOnToWait);
        Checks.sentence("CONTEXTS are 0 .. 2 H - 1;", ControllerEdgesTest::contexts);
        Checks.sentence("each ENABLES some sources and has a THRESHOLD 0 .. 7.", ControllerEdgesTest::eachContextItsOwn);
        Checks.sentence("At first all signals are off, all numbers 0.", ControllerEdgesTest::atFirst);
        Checks.sentence("All is of 4 bytes:", ControllerEdgesTest::otherSizes);
        Checks.sentence("4 s: the priority of source s (the lowest 3 bits that are written).", ControllerEdgesTest::priorityBits);
        Checks.sentence("4096: bit s for each source that waits (writing changes nothing).", ControllerEdgesTest::waiting);
        Checks.sentence("8192 + 128 c: bit s for each source that context c enables (bit 0 stays 0).",
            ControllerEdgesTest::enables);
        Checks.sentence("2097152 + 4096 c: its threshold (the lowest 3 bits).", ControllerEdgesTest::thresholdBits);
        Checks.sentence("2097156 + 4096 c: reading it CLAIMS, writing COMPLETES.", ControllerEdgesTest::claimRegister);
        Checks.sentence("of the sources that wait,", ControllerEdgesTest::claimsWhatWaits);
        Checks.sentence("that c enables", ControllerEdgesTest::claimsWhatIsEnabled);
        Checks.sentence("and that have a priority above 0,", ControllerEdgesTest::claimsAbove0);
        Checks.sentence("that with the greatest one,", ControllerEdgesTest::claimsTheGreatest);
        Checks.sentence("of several the least source:", ControllerEdgesTest::claimsTheLeast);
        Checks.sentence("it waits no more and is served, and its number is read;", ControllerEdgesTest::claimServes);
        Checks.sentence("0 when there is none.", ControllerEdgesTest::claimsNone);
        Checks.sentence("To complete s by c: if c enables s", ControllerEdgesTest::completesWhatIsEnabled);
        Checks.sentence("and s is served, it is served no more.", ControllerEdgesTest::completesWhatIsServed);
        Checks.sentence("Line 11 of h is on when some source waits that context 2 h enables,", () -> lines(11, 0));
        Checks.sentence("with a priority above its threshold;", () -> thresholds(11, 0));
        Checks.sentence("line 9 likewise for context 2 h + 1.", () -> {
            lines(9, 1);
            thresholds(9, 1);
        });
        Checks.end();
    }

    /** A source with a priority that one context enables. */
    private static void prepare(SignalBoard x, int context, int source, int priority) {
        Checks.store4(x, 4L * source, priority);
        Checks.store4(x, Checks.enables(context), 1L << source);
    }

    private static long waits(SignalBoard x) {
        return Checks.load4(x, Checks.WAITING);
    }

    private static void sources() {
        for (int s = 1; s <= 31; s++) {
            SignalBoard x = new SignalBoard(1);
            Checks.store4(x, 4L * s, 7);
            Checks.same("priority of " + s, Checks.load4(x, 4L * s), 7);
            if (s != 10) {
                x.signal(s, true);
                Checks.same("waits " + s, waits(x), 1L << s);
            }
        }
        SignalBoard x = new SignalBoard(1);
        for (int none : new int[] {0, 32}) {
            Checks.store4(x, 4L * none, 7);
            Checks.same("priority of " + none, Checks.load4(x, 4L * none), 0);
            Checks.refused("signal " + none, () -> x.signal(none, true));
        }
        Checks.same("others do not wait", waits(x), 0);
    }

    private static void priorities() {
        for (int s : new int[] {1, 10, 31}) {
            SignalBoard x = new SignalBoard(1);
            for (int p = 0; p <= 7; p++) {
                Checks.store4(x, 4L * s, p);
                Checks.same("priority of " + s, Checks.load4(x, 4L * s), p);
            }
            Checks.store4(x, 4L * s, 8);
            Checks.same("priority of " + s + " beyond 7", Checks.load4(x, 4L * s), 0);
        }
    }

    private static void waitsAtOnce() {
        SignalBoard x = new SignalBoard(1);
        prepare(x, 0, 31, 1);
        x.signal(31, true);
        Checks.same("on", waits(x), 1L << 31);
        Checks.load4(x, Checks.claim(0));
        Checks.same("on, but served", waits(x), 0);
        x.signal(31, true);
        Checks.same("on again, but served", waits(x), 0);
        Checks.store4(x, Checks.claim(0), 31);
        Checks.same("still on, served no more", waits(x), 1L << 31);
        Checks.load4(x, Checks.claim(0));
        x.signal(31, false);
        Checks.store4(x, Checks.claim(0), 31);
        Checks.same("off, served no more", waits(x), 0);
        x.signal(31, true);
        Checks.same("on later", waits(x), 1L << 31);
    }

    private static void goesOnToWait() {
        SignalBoard x = new SignalBoard(1);
        prepare(x, 0, 1, 1);
        x.signal(1, true);
        x.signal(1, false);
        Checks.same("off", waits(x), 2);
        x.signal(1, false);
        Checks.same("off once more", waits(x), 2);
        Checks.same("line 11", x.line(0, 11), true);
        Checks.same("claim", Checks.load4(x, Checks.claim(0)), 1);
        Checks.same("claimed", waits(x), 0);
    }

    private static void contexts() {
        for (int h = 1; h <= 4; h++) {
            SignalBoard x = new SignalBoard(h);
            Checks.store4(x, 4, 1);
            x.signal(1, true);
            for (int c = 2 * h; c <= 9; c++) {
                Checks.store4(x, Checks.enables(c), 2);
                Checks.store4(x, Checks.threshold(c), 1);
                Checks.same("enables of " + c, Checks.load4(x, Checks.enables(c)), 0);
                Checks.same("threshold of " + c, Checks.load4(x, Checks.threshold(c)), 0);
                Checks.same("claim by " + c, Checks.load4(x, Checks.claim(c)), 0);
            }
            for (int c = 0; c < 2 * h; c++) {
                Checks.store4(x, Checks.enables(c), 2);
                Checks.same("enables of " + c, Checks.load4(x, Checks.enables(c)), 2);
                Checks.same("claim by " + c, Checks.load4(x, Checks.claim(c)), 1);
                Checks.store4(x, Checks.claim(2 * h), 1);
                Checks.same("completed by none", waits(x), 0);
                Checks.store4(x, Checks.claim(c), 1);
                Checks.same("completed by " + c, waits(x), 2);
            }
        }
    }

    private static void eachContextItsOwn() {
        SignalBoard x = new SignalBoard(4);
        for (int c = 0; c < 8; c++) {
            Checks.store4(x, Checks.enables(c), 2L << c);
            Checks.store4(x, Checks.threshold(c), 7 - c);
        }
        for (int c = 0; c < 8; c++) {
            Checks.same("enables of " + c, Checks.load4(x, Checks.enables(c)), 2L << c);
            Checks.same("threshold of " + c, Checks.load4(x, Checks.threshold(c)), 7 - c);
        }
    }

    private static void atFirst() {
        SignalBoard x = new SignalBoard(4);
        Checks.same("nothing waits", waits(x), 0);
        for (int s = 1; s <= 31; s++) {
            Checks.same("priority of " + s, Checks.load4(x, 4L * s), 0);
        }
        for (int c = 0; c < 8; c++) {
            Checks.same("enables of " + c, Checks.load4(x, Checks.enables(c)), 0);
            Checks.same("threshold of " + c, Checks.load4(x, Checks.threshold(c)), 0);
            Checks.same("claim by " + c, Checks.load4(x, Checks.claim(c)), 0);
        }
        for (int s = 1; s <= 31; s++) {
            Checks.store4(x, Checks.claim(0), s);
        }
        Checks.same("no signal is on", waits(x), 0);
    }

    private static void otherSizes() {
        for (int size : new int[] {1, 2, 8}) {
            SignalBoard x = new SignalBoard(1);
            prepare(x, 0, 2, 5);
            Checks.store4(x, Checks.threshold(0), 3);
            x.signal(2, true);
            long[] registers = {8, Checks.WAITING, Checks.enables(0), Checks.threshold(0), Checks.claim(0)};
            long[] kept = {5, 4, 4, 3, 2};
            for (long at : registers) {
                Checks.same("read at " + at + ", size " + size, x.read(Checks.CONTROLLER, at, size), 0);
                x.write(Checks.CONTROLLER, at, size, 0);
            }
            for (int i = 0; i < registers.length; i++) {
                Checks.same("kept at " + registers[i], Checks.load4(x, registers[i]), kept[i]);
            }
            x.write(Checks.CONTROLLER, Checks.claim(0), size, 2);
            Checks.same("not completed by size " + size, waits(x), 0);
        }
    }

    private static void priorityBits() {
        SignalBoard x = new SignalBoard(1);
        for (int s : new int[] {1, 2, 30, 31}) {
            for (long v : new long[] {7, 8, 9, 15, 0x80000001L, 0xFFFFFFF8L, 0xFFFFFFFFL, -1, Long.MIN_VALUE, 1L << 32 | 6}) {
                Checks.store4(x, 4L * s, v);
                Checks.same("priority of " + s + " after " + v, Checks.load4(x, 4L * s), v & 7);
            }
            Checks.same("priority of the one before", Checks.load4(x, 4L * (s - 1)), s == 2 || s == 31 ? 6 : 0);
        }
        for (int amid = 1; amid < 4; amid++) {
            Checks.store4(x, 8 + amid, 1);
            Checks.same("amid two", Checks.load4(x, 8 + amid), 0);
        }
        Checks.same("priority of 2 stays", Checks.load4(x, 8), 6);
    }

    private static void waiting() {
        SignalBoard x = new SignalBoard(1);
        long due = 0;
        for (int s : new int[] {31, 1, 9, 11, 30}) {
            x.signal(s, true);
            due |= 1L << s;
            Checks.same("with " + s, waits(x), due);
        }
        for (long v : new long[] {0, -1, 1, 0x80000000L}) {
            Checks.store4(x, Checks.WAITING, v);
            Checks.same("after writing " + v, waits(x), due);
        }
        SignalBoard y = new SignalBoard(1);
        Checks.store4(y, Checks.WAITING, -1);
        Checks.same("nothing waits by writing", waits(y), 0);
    }

    private static void enables() {
        SignalBoard x = new SignalBoard(4);
        for (int c = 0; c < 8; c++) {
            for (long v : new long[] {0xFFFFFFFFL, 1, 0x80000001L, 2, 3, -1, 0x1FFFFFFFFL, 1L << 32, Long.MIN_VALUE | 1}) {
                Checks.store4(x, Checks.enables(c), v);
                Checks.same("enables of " + c + " after " + v, Checks.load4(x, Checks.enables(c)), v & 0xFFFFFFFEL);
            }
        }
        Checks.store4(x, Checks.enables(0) + 4, -1);
        Checks.same("behind the first", Checks.load4(x, Checks.enables(0) + 4), 0);
        Checks.same("enables of the first", Checks.load4(x, Checks.enables(0)), 0);
    }

    private static void thresholdBits() {
        SignalBoard x = new SignalBoard(4);
        for (int c = 0; c < 8; c++) {
            for (long v : new long[] {7, 8, 9, 0x80000000L, 0xFFFFFFFFL, -1, 1L << 32, 0xFFFFFFFDL}) {
                Checks.store4(x, Checks.threshold(c), v);
                Checks.same("threshold of " + c + " after " + v, Checks.load4(x, Checks.threshold(c)), v & 7);
            }
        }
    }

    private static void claimRegister() {
        for (int c = 0; c < 8; c++) {
            SignalBoard x = new SignalBoard(4);
            prepare(x, c, 5, 2);
            x.signal(5, true);
            for (int other = 0; other < 8; other++) {
                if (other != c) {
                    Checks.same("claim by " + other, Checks.load4(x, Checks.claim(other)), 0);
                }
            }
            Checks.same("claim by " + c, Checks.load4(x, Checks.claim(c)), 5);
            Checks.same("claimed", waits(x), 0);
            Checks.store4(x, Checks.claim(c), 5);
            Checks.same("completed", waits(x), 32);
            Checks.same("behind it", Checks.load4(x, Checks.claim(c) + 4), 0);
            Checks.same("nothing claimed behind it", waits(x), 32);
        }
    }

    private static void claimsWhatWaits() {
        SignalBoard x = new SignalBoard(1);
        prepare(x, 0, 3, 7);
        Checks.same("never on", Checks.load4(x, Checks.claim(0)), 0);
        x.signal(3, true);
        Checks.same("on", Checks.load4(x, Checks.claim(0)), 3);
        Checks.same("on, but served", Checks.load4(x, Checks.claim(0)), 0);
        x.signal(3, false);
        Checks.store4(x, Checks.claim(0), 3);
        Checks.same("off", Checks.load4(x, Checks.claim(0)), 0);
        x.signal(3, true);
        x.signal(3, false);
        Checks.same("off, but waits", Checks.load4(x, Checks.claim(0)), 3);
    }

    private static void claimsWhatIsEnabled() {
        SignalBoard x = new SignalBoard(1);
        Checks.store4(x, 4, 7);
        Checks.store4(x, 124, 1);
        x.signal(1, true);
        x.signal(31, true);
        Checks.same("none is enabled", Checks.load4(x, Checks.claim(0)), 0);
        Checks.store4(x, Checks.enables(1), 2);
        Checks.same("enabled by another", Checks.load4(x, Checks.claim(0)), 0);
        Checks.store4(x, Checks.enables(0), 0x80000000L);
        Checks.same("the lower one is enabled", Checks.load4(x, Checks.claim(0)), 31);
        Checks.same("the other context", Checks.load4(x, Checks.claim(1)), 1);
    }

    private static void claimsAbove0() {
        SignalBoard x = new SignalBoard(1);
        prepare(x, 0, 4, 0);
        x.signal(4, true);
        Checks.same("priority 0", Checks.load4(x, Checks.claim(0)), 0);
        Checks.same("it waits on", waits(x), 16);
        Checks.store4(x, 16, 8);
        Checks.same("priority 8 is 0", Checks.load4(x, Checks.claim(0)), 0);
        Checks.store4(x, Checks.threshold(0), 7);
        Checks.store4(x, 16, 1);
        Checks.same("priority 1, the threshold does not matter", Checks.load4(x, Checks.claim(0)), 4);
    }

    private static void claimsTheGreatest() {
        SignalBoard x = new SignalBoard(1);
        Checks.store4(x, Checks.enables(0), -1);
        int[] sources = {1, 2, 3, 4, 28, 29, 31};
        int[] priorities = {3, 6, 1, 4, 7, 2, 5};
        for (int i = 0; i < sources.length; i++) {
            Checks.store4(x, 4L * sources[i], priorities[i]);
            x.signal(sources[i], true);
        }
        for (int due : new int[] {28, 2, 31, 4, 1, 29, 3}) {
            Checks.same("claim", Checks.load4(x, Checks.claim(0)), due);
        }
    }

    private static void claimsTheLeast() {
        for (int p : new int[] {1, 7}) {
            SignalBoard x = new SignalBoard(1);
            Checks.store4(x, Checks.enables(0), -1);
            for (int s : new int[] {31, 2, 30, 1, 16}) {
                Checks.store4(x, 4L * s, p);
                x.signal(s, true);
            }
            for (int due : new int[] {1, 2, 16, 30, 31}) {
                Checks.same("claim, all of priority " + p, Checks.load4(x, Checks.claim(0)), due);
            }
        }
    }

    private static void claimServes() {
        for (int s : new int[] {1, 9, 11, 31}) {
            SignalBoard x = new SignalBoard(1);
            Checks.store4(x, 4L * s, 1);
            Checks.store4(x, Checks.enables(0), -1);
            x.signal(s, true);
            x.signal(20, true);
            Checks.same("its number", Checks.load4(x, Checks.claim(0)), s);
            Checks.same("it waits no more", waits(x), 1 << 20);
            x.signal(s, false);
            x.signal(s, true);
            Checks.same("it is served", waits(x), 1 << 20);
        }
    }

    private static void claimsNone() {
        SignalBoard x = new SignalBoard(1);
        Checks.same("at first", Checks.load4(x, Checks.claim(0)), 0);
        prepare(x, 0, 1, 1);
        x.signal(1, true);
        Checks.load4(x, Checks.claim(0));
        for (int again = 0; again < 3; again++) {
            Checks.same("after the last one", Checks.load4(x, Checks.claim(0)), 0);
        }
        Checks.store4(x, Checks.claim(0), 0);
        Checks.same("completing 0", waits(x), 0);
    }

    /** A source 3 that is on and served, which context 0 enables; completing it would let it wait again. */
    private static SignalBoard withServed3() {
        SignalBoard x = new SignalBoard(1);
        prepare(x, 0, 3, 1);
        x.signal(3, true);
        Checks.load4(x, Checks.claim(0));
        return x;
    }

    private static void completesWhatIsEnabled() {
        SignalBoard x = withServed3();
        Checks.store4(x, Checks.claim(1), 3);
        Checks.same("by one that enables none", waits(x), 0);
        Checks.store4(x, Checks.enables(1), 0xFFFFFFF7L);
        Checks.store4(x, Checks.claim(1), 3);
        Checks.same("by one that enables all others", waits(x), 0);
        Checks.store4(x, Checks.enables(0), 0);
        Checks.store4(x, Checks.claim(0), 3);
        Checks.same("by the one that claimed and enables it no more", waits(x), 0);
        Checks.store4(x, Checks.enables(1), 8);
        Checks.store4(x, Checks.claim(1), 3);
        Checks.same("by one that did not claim", waits(x), 8);
    }

    private static void completesWhatIsServed() {
        for (long none : new long[] {0, 2, 4, 32, 35, 64 + 3, 256 + 3, 0x80000003L, 0xFFFFFFE3L, 0xFFFFFFFFL, -1, 3L << 32}) {
            SignalBoard x = withServed3();
            Checks.store4(x, Checks.enables(0), -1);
            Checks.store4(x, Checks.claim(0), none);
            Checks.same("3 is served on after " + none, waits(x), 0);
            Checks.store4(x, Checks.claim(0), 3);
            Checks.same("3 is served no more", waits(x), 8);
            x.signal(3, false);
            Checks.store4(x, Checks.claim(0), 3);
            Checks.same("what waits waits on", waits(x), 8);
        }
        SignalBoard x = withServed3();
        Checks.store4(x, Checks.claim(0), 1L << 32 | 3);
        Checks.same("only 4 bytes are written", waits(x), 8);
    }

    private static void lines(int line, int odd) {
        for (int h = 0; h < 4; h++) {
            SignalBoard x = new SignalBoard(4);
            int c = 2 * h + odd;
            prepare(x, c, 31, 1);
            x.signal(30, true);
            Checks.same("another waits", x.line(h, line), false);
            x.signal(31, true);
            for (int other = 0; other < 4; other++) {
                Checks.same("line " + line + " of " + other, x.line(other, line), other == h);
                Checks.same("the line beside it", x.line(other, 20 - line), false);
            }
            x.signal(31, false);
            Checks.same("it goes on to wait", x.line(h, line), true);
            Checks.store4(x, Checks.enables(c), 0x7FFFFFFFL);
            Checks.same("not enabled", x.line(h, line), false);
            Checks.store4(x, Checks.enables(c), 0x80000000L);
            Checks.load4(x, Checks.claim(c));
            Checks.same("it waits no more", x.line(h, line), false);
        }
    }

    private static void thresholds(int line, int odd) {
        for (int p = 0; p <= 7; p++) {
            SignalBoard x = new SignalBoard(4);
            prepare(x, 6 + odd, 2, p);
            x.signal(2, true);
            for (int t = 0; t <= 7; t++) {
                Checks.store4(x, Checks.threshold(6 + odd), t);
                Checks.store4(x, Checks.threshold(7 - odd), 7 - t);
                Checks.same("line " + line + ", priority " + p + ", threshold " + t, x.line(3, line), p > t);
            }
        }
    }
}
