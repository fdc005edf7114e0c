/** The edges that the document's eleven promises name themselves, sentence by sentence. */
public final class PromiseEdgesTest {
    private static final int[] NO_WINDOWS = {-1, 3, 4, 256, Integer.MIN_VALUE, Integer.MAX_VALUE};
    private static final int[] NO_SIZES = {0, 3, 5, 6, 7, 9, 16, 32, 64, -1, -2, -4, -8, 257, Integer.MIN_VALUE, Integer.MAX_VALUE};
    private static final long[] BELOW_0 = {-1, -2, -4, -8, Integer.MIN_VALUE, Long.MIN_VALUE, Long.MIN_VALUE + 8};

    public static void main(String[] args) {
        Checks.sentence("1: So many processors, 1 .. 4;", PromiseEdgesTest::soManyProcessors);
        Checks.sentence("1: 1 if it is none of these.", PromiseEdgesTest::noneOfThese);
        Checks.sentence("2: How many processors there are.", PromiseEdgesTest::howMany);
        Checks.sentence("3: IllegalArgumentException: there is no such window", PromiseEdgesTest::readWindow);
        Checks.sentence("3: or size,", PromiseEdgesTest::readSize);
        Checks.sentence("3: or offset is below 0.", PromiseEdgesTest::readBelow0);
        Checks.sentence("3: IllegalArgumentException: there is no such window or size, or offset is below 0.",
            PromiseEdgesTest::refusedReadsChangeNothing);
        Checks.sentence("4: Writes the lowest size bytes of v.", PromiseEdgesTest::lowestBytes);
        Checks.sentence("4: IllegalArgumentException as for read().", () -> {
            refusesWrites();
            refusedWritesChangeNothing();
        });
        Checks.sentence("5: A source's signal goes on or off.", PromiseEdgesTest::onOrOff);
        Checks.sentence("5: IllegalArgumentException: there is no such source,", PromiseEdgesTest::noSuchSource);
        Checks.sentence("5: or it is 10.", PromiseEdgesTest::source10);
        Checks.sentence("6: A byte (the lowest eight bits of b) comes on the serial line:", PromiseEdgesTest::eightBits);
        Checks.sentence("6: whether there was room.", PromiseEdgesTest::wasRoom);
        Checks.sentence("7: How many bytes more there is room for in IN.", PromiseEdgesTest::room);
        Checks.sentence("8: TIME grows by n", PromiseEdgesTest::grows);
        Checks.sentence("8: (it goes round).", PromiseEdgesTest::goesRound);
        Checks.sentence("9: Whether line 3, 7, 9 or 11 of a processor is on.", PromiseEdgesTest::linesThatAre);
        Checks.sentence("9: IllegalArgumentException: there is no such processor", PromiseEdgesTest::noSuchProcessor);
        Checks.sentence("9: or line.", PromiseEdgesTest::noSuchLine);
        Checks.sentence("10: How many bytes were sent in all.", PromiseEdgesTest::sentInAll);
        Checks.sentence("11: The k-th byte that was sent (from 0), 0 .. 255;", PromiseEdgesTest::kth);
        Checks.sentence("11: -1 when there is none,", PromiseEdgesTest::none);
        Checks.sentence("11: or it is kept no more.", PromiseEdgesTest::keptNoMore);
        Checks.end();
    }

    private static void soManyProcessors() {
        for (int h = 1; h <= 4; h++) {
            SignalBoard x = new SignalBoard(h);
            int beyond = h;
            Checks.same("processors", x.processors(), h);
            Checks.same("line of the last of " + h, x.line(h - 1, 3), false);
            Checks.refused("line beyond " + h, () -> x.line(beyond, 3));
            Checks.same("COMPARE of the last of " + h, x.read(Checks.TIMER, Checks.COMPARE + 8L * (h - 1), 8), -1);
            Checks.same("COMPARE beyond " + h, x.read(Checks.TIMER, Checks.COMPARE + 8L * h, 8), 0);
            Checks.store4(x, Checks.threshold(2 * h - 1), 7);
            Checks.same("threshold of the last context of " + h, Checks.load4(x, Checks.threshold(2 * h - 1)), 7);
        }
    }

    private static void noneOfThese() {
        for (int none : new int[] {0, 5, 6, 8, -1, -2, -4, 256 + 2, 65536 + 2, Integer.MIN_VALUE, Integer.MAX_VALUE}) {
            SignalBoard x = new SignalBoard(none);
            Checks.same("processors of " + none, x.processors(), 1);
            Checks.same("line of the only one", x.line(0, 7), false);
            Checks.refused("line of another", () -> x.line(1, 7));
            Checks.same("COMPARE of another", x.read(Checks.TIMER, Checks.COMPARE + 8, 8), 0);
            Checks.store4(x, Checks.enables(2), 2);
            Checks.same("enables of its context", Checks.load4(x, Checks.enables(2)), 0);
        }
    }

    private static void howMany() {
        Checks.same("least", new SignalBoard(1).processors(), 1);
        Checks.same("most", new SignalBoard(4).processors(), 4);
        Checks.same("too few", new SignalBoard(0).processors(), 1);
        Checks.same("too many", new SignalBoard(5).processors(), 1);
    }

    private static void readWindow() {
        SignalBoard x = new SignalBoard(1);
        for (int none : NO_WINDOWS) {
            for (int size : new int[] {1, 2, 4, 8}) {
                Checks.refused("window " + none + ", size " + size, () -> x.read(none, 0, size));
            }
        }
    }

    private static void readSize() {
        SignalBoard x = new SignalBoard(1);
        for (int window = 0; window < 3; window++) {
            int w = window;
            for (int none : NO_SIZES) {
                Checks.refused("window " + w + ", size " + none, () -> x.read(w, 0, none));
                Checks.refused("window " + w + ", size " + none + ", nothing there", () -> x.read(w, Long.MAX_VALUE, none));
            }
        }
    }

    private static void readBelow0() {
        SignalBoard x = new SignalBoard(1);
        for (int window = 0; window < 3; window++) {
            int w = window;
            for (int size : new int[] {1, 2, 4, 8}) {
                for (long none : BELOW_0) {
                    Checks.refused("window " + w + ", offset " + none, () -> x.read(w, none, size));
                }
                Checks.same("the greatest offset", x.read(w, Long.MAX_VALUE, size), 0);
            }
        }
        Checks.same("offset 0 of the timer", x.read(0, 0, 4), 0);
        Checks.same("offset 0 of the controller", x.read(1, 0, 4), 0);
        Checks.same("offset 0 of the serial line", x.read(2, 0, 1), 0);
    }

    /** A source that would be claimed, a byte that would be taken, an overrun that would end. */
    private static void refusedReadsChangeNothing() {
        SignalBoard x = new SignalBoard(1);
        Checks.store4(x, 4, 1);
        Checks.store4(x, Checks.enables(0), 2);
        x.signal(1, true);
        x.come(65);
        x.come(66);
        for (int none : NO_SIZES) {
            Checks.refused("claim, size " + none, () -> x.read(Checks.CONTROLLER, Checks.claim(0), none));
            Checks.refused("register 0, size " + none, () -> x.read(Checks.SERIAL, 0, none));
            Checks.refused("register 5, size " + none, () -> x.read(Checks.SERIAL, 5, none));
        }
        for (int none : NO_WINDOWS) {
            Checks.refused("claim, window " + none, () -> x.read(none, Checks.claim(0), 4));
            Checks.refused("register 0, window " + none, () -> x.read(none, 0, 1));
        }
        Checks.same("overrun stays", Checks.load1(x, 5), 99);
        Checks.same("byte stays", Checks.load1(x, 0), 65);
        Checks.same("source waits on", Checks.load4(x, Checks.claim(0)), 1);
    }

    private static void lowestBytes() {
        SignalBoard x = new SignalBoard(1);
        x.write(Checks.TIMER, Checks.TIME, 8, 0x8899AABBCCDDEEFFL);
        Checks.same("8 bytes", x.read(Checks.TIMER, Checks.TIME, 8), 0x8899AABBCCDDEEFFL);
        x.write(Checks.TIMER, Checks.TIME, 4, 0x1122334455667788L);
        Checks.same("4 bytes, lower half", x.read(Checks.TIMER, Checks.TIME, 8), 0x8899AABB55667788L);
        x.write(Checks.TIMER, Checks.TIME + 4, 4, 0x1122334499AABBCCL);
        Checks.same("4 bytes, upper half", x.read(Checks.TIMER, Checks.TIME, 8), 0x99AABBCC55667788L);
        x.write(Checks.TIMER, 0, 4, 0xFFFFFFFF00000000L);
        Checks.same("4 bytes, SOFT", x.read(Checks.TIMER, 0, 4), 0);
        x.write(Checks.CONTROLLER, Checks.enables(0), 4, 0xFFFFFFFF80000002L);
        Checks.same("4 bytes, enables", Checks.load4(x, Checks.enables(0)), 0x80000002L);
        x.write(Checks.CONTROLLER, 4, 4, 0x700000000L);
        Checks.same("4 bytes, priority", Checks.load4(x, 4), 0);
        x.write(Checks.SERIAL, 7, 1, 0xFFFFFFFFFFFFFF80L);
        Checks.same("1 byte, register 7", Checks.load1(x, 7), 128);
        x.write(Checks.SERIAL, 0, 1, 0x100);
        Checks.same("1 byte, sent", x.out(0), 0);
    }

    private static void refusesWrites() {
        SignalBoard x = new SignalBoard(1);
        for (int none : NO_WINDOWS) {
            for (int size : new int[] {1, 2, 4, 8}) {
                Checks.refused("window " + none + ", size " + size, () -> x.write(none, 0, size, 1));
            }
        }
        for (int window = 0; window < 3; window++) {
            int w = window;
            for (int none : NO_SIZES) {
                Checks.refused("window " + w + ", size " + none, () -> x.write(w, 0, none, 1));
            }
            for (long none : BELOW_0) {
                for (int size : new int[] {1, 2, 4, 8}) {
                    Checks.refused("window " + w + ", offset " + none, () -> x.write(w, none, size, 1));
                }
            }
        }
    }

    private static void refusedWritesChangeNothing() {
        SignalBoard x = new SignalBoard(1);
        for (int none : NO_SIZES) {
            Checks.refused("SOFT, size " + none, () -> x.write(Checks.TIMER, 0, none, 1));
            Checks.refused("COMPARE, size " + none, () -> x.write(Checks.TIMER, Checks.COMPARE, none, 0));
            Checks.refused("priority, size " + none, () -> x.write(Checks.CONTROLLER, 4, none, 1));
            Checks.refused("enables, size " + none, () -> x.write(Checks.CONTROLLER, Checks.enables(0), none, 2));
            Checks.refused("register 0, size " + none, () -> x.write(Checks.SERIAL, 0, none, 1));
            Checks.refused("register 7, size " + none, () -> x.write(Checks.SERIAL, 7, none, 1));
        }
        for (int none : NO_WINDOWS) {
            Checks.refused("offset 4, window " + none, () -> x.write(none, 4, 4, 1));
            Checks.refused("offset 0, window " + none, () -> x.write(none, 0, 1, 1));
        }
        Checks.same("SOFT", x.read(Checks.TIMER, 0, 4), 0);
        Checks.same("COMPARE", x.read(Checks.TIMER, Checks.COMPARE, 8), -1);
        Checks.same("priority", Checks.load4(x, 4), 0);
        Checks.same("enables", Checks.load4(x, Checks.enables(0)), 0);
        Checks.same("register 4", Checks.load1(x, 4), 0);
        Checks.same("register 7", Checks.load1(x, 7), 0);
        Checks.same("sent", x.sent(), 0);
    }

    private static void onOrOff() {
        for (int s : new int[] {1, 9, 11, 31}) {
            SignalBoard x = new SignalBoard(1);
            Checks.store4(x, 4L * s, 1);
            Checks.store4(x, Checks.enables(0), 1L << s);
            x.signal(s, false);
            Checks.same("off " + s, Checks.load4(x, Checks.claim(0)), 0);
            x.signal(s, true);
            Checks.same("on " + s, Checks.load4(x, Checks.claim(0)), s);
            Checks.store4(x, Checks.claim(0), s);
            Checks.same("on " + s + " still", Checks.load4(x, Checks.claim(0)), s);
            x.signal(s, false);
            Checks.store4(x, Checks.claim(0), s);
            Checks.same("off " + s + " again", Checks.load4(x, Checks.claim(0)), 0);
        }
    }

    private static void noSuchSource() {
        SignalBoard x = new SignalBoard(4);
        for (int none : new int[] {0, 32, 33, 63, 64, 257, -1, -31, -32, Integer.MIN_VALUE, Integer.MIN_VALUE + 1, Integer.MAX_VALUE}) {
            Checks.refused("on " + none, () -> x.signal(none, true));
            Checks.refused("off " + none, () -> x.signal(none, false));
        }
        Checks.same("nothing waits", Checks.load4(x, Checks.WAITING), 0);
        x.signal(1, true);
        x.signal(31, true);
        Checks.same("the first and the last", Checks.load4(x, Checks.WAITING), 0x80000002L);
    }

    private static void source10() {
        SignalBoard x = new SignalBoard(1);
        Checks.refused("on", () -> x.signal(10, true));
        Checks.same("it does not wait", Checks.load4(x, Checks.WAITING), 0);
        x.signal(9, true);
        x.signal(11, true);
        Checks.same("those beside it", Checks.load4(x, Checks.WAITING), 1 << 9 | 1 << 11);

        SignalBoard y = new SignalBoard(1);
        Checks.store4(y, 40, 1);
        Checks.store4(y, Checks.enables(0), 1 << 10);
        Checks.store1(y, 1, 1);
        y.come(1);
        Checks.refused("off", () -> y.signal(10, false));
        Checks.same("claim", Checks.load4(y, Checks.claim(0)), 10);
        Checks.store4(y, Checks.claim(0), 10);
        Checks.same("its signal is on still", Checks.load4(y, Checks.WAITING), 1 << 10);
    }

    private static void eightBits() {
        SignalBoard x = new SignalBoard(1);
        for (int b : new int[] {0, 1, 127, 128, 255, 256, 257, 511, 65536, -1, -128, -256, Integer.MIN_VALUE, Integer.MAX_VALUE}) {
            x.come(b);
            Checks.same("IN is not empty", Checks.load1(x, 5), 97);
            Checks.same("byte of " + b, Checks.load1(x, 0), b & 255);
        }
    }

    private static void wasRoom() {
        SignalBoard x = new SignalBoard(1);
        Checks.same("room for 1", x.come(1), true);
        Checks.same("full", x.come(2), false);
        Checks.same("full still", x.come(3), false);
        Checks.load1(x, 0);
        Checks.same("room again", x.come(4), true);
        Checks.store1(x, 2, 1);
        for (int i = 0; i < 18; i++) {
            Checks.same("byte " + i + " with the queue", x.come(i), i < 16);
        }
        Checks.load1(x, 0);
        Checks.same("room for one more", x.come(1), true);
        Checks.same("full again", x.come(1), false);
    }

    private static void room() {
        SignalBoard x = new SignalBoard(1);
        Checks.same("empty", x.room(), 1);
        x.come(1);
        Checks.same("full", x.room(), 0);
        x.come(1);
        Checks.same("overrun", x.room(), 0);
        Checks.load1(x, 0);
        Checks.load1(x, 0);
        Checks.same("empty, read too often", x.room(), 1);
        Checks.store1(x, 2, 1);
        for (int i = 1; i <= 18; i++) {
            x.come(i);
            Checks.same("after byte " + i, x.room(), i < 16 ? 16 - i : 0);
        }
        for (int i = 1; i <= 18; i++) {
            Checks.load1(x, 0);
            Checks.same("after reading " + i, x.room(), i < 16 ? i : 16);
        }
    }

    private static void grows() {
        SignalBoard x = new SignalBoard(1);
        long due = 0;
        for (long n : new long[] {0, 1, 1, 1000, 0xFFFFFFFFL, 1, 1L << 32, Long.MAX_VALUE}) {
            x.pass(n);
            due += n;
            Checks.same("by " + n, x.read(Checks.TIMER, Checks.TIME, 8), due);
            Checks.same("lower half", x.read(Checks.TIMER, Checks.TIME, 4), due & 0xFFFFFFFFL);
            Checks.same("upper half", x.read(Checks.TIMER, Checks.TIME + 4, 4), due >>> 32);
        }
        x.write(Checks.TIMER, Checks.TIME, 8, 5);
        x.pass(2);
        Checks.same("from what was written", x.read(Checks.TIMER, Checks.TIME, 8), 7);
    }

    private static void goesRound() {
        SignalBoard x = new SignalBoard(1);
        x.pass(-1);
        Checks.same("the greatest", x.read(Checks.TIMER, Checks.TIME, 8), -1);
        Checks.same("line 7 at the greatest", x.line(0, 7), true);
        x.pass(1);
        Checks.same("round to 0", x.read(Checks.TIMER, Checks.TIME, 8), 0);
        Checks.same("line 7 after it", x.line(0, 7), false);
        x.pass(Long.MAX_VALUE);
        x.pass(Long.MAX_VALUE);
        Checks.same("near the end", x.read(Checks.TIMER, Checks.TIME, 8), -2);
        x.pass(5);
        Checks.same("round to 3", x.read(Checks.TIMER, Checks.TIME, 8), 3);
        x.pass(-1);
        Checks.same("round by the greatest", x.read(Checks.TIMER, Checks.TIME, 8), 2);
        x.pass(Long.MIN_VALUE);
        x.pass(Long.MIN_VALUE);
        Checks.same("round by two halves", x.read(Checks.TIMER, Checks.TIME, 8), 2);
    }

    private static void linesThatAre() {
        SignalBoard x = new SignalBoard(4);
        for (int h = 0; h < 4; h++) {
            for (int line : new int[] {3, 7, 9, 11}) {
                Checks.same("line " + line + " of " + h + " at first", x.line(h, line), false);
            }
        }
        x.signal(1, true);
        Checks.store4(x, 4, 1);
        x.write(Checks.TIMER, 12, 4, 1);
        x.write(Checks.TIMER, Checks.COMPARE + 16, 8, 0);
        Checks.store4(x, Checks.enables(3), 2);
        Checks.store4(x, Checks.enables(0), 2);
        for (int h = 0; h < 4; h++) {
            Checks.same("line 3 of " + h, x.line(h, 3), h == 3);
            Checks.same("line 7 of " + h, x.line(h, 7), h == 2);
            Checks.same("line 9 of " + h, x.line(h, 9), h == 1);
            Checks.same("line 11 of " + h, x.line(h, 11), h == 0);
        }
    }

    private static void noSuchProcessor() {
        for (int h = 1; h <= 4; h++) {
            SignalBoard x = new SignalBoard(h);
            for (int none : new int[] {-1, h, h + 1, 256, Integer.MIN_VALUE, Integer.MAX_VALUE}) {
                for (int line : new int[] {3, 7, 9, 11}) {
                    Checks.refused("line " + line + " of " + none + " of " + h, () -> x.line(none, line));
                }
            }
        }
    }

    private static void noSuchLine() {
        SignalBoard x = new SignalBoard(2);
        for (int none : new int[] {0, 1, 2, 4, 5, 6, 8, 10, 12, 13, 19, 35, 256 + 3, -1, -3, -7, Integer.MIN_VALUE, Integer.MAX_VALUE}) {
            Checks.refused("line " + none + " of 0", () -> x.line(0, none));
            Checks.refused("line " + none + " of 1", () -> x.line(1, none));
            Checks.refused("line " + none + " of none", () -> x.line(2, none));
        }
    }

    private static void sentInAll() {
        SignalBoard x = new SignalBoard(1);
        Checks.same("none", x.sent(), 0);
        for (int i = 1; i <= 200; i++) {
            Checks.store1(x, 0, i);
            Checks.same("sent", x.sent(), i);
        }
        Checks.store1(x, 2, 3);
        Checks.same("emptying IN changes nothing", x.sent(), 200);
        x.come(1);
        Checks.load1(x, 0);
        Checks.same("what comes is not sent", x.sent(), 200);
    }

    private static void kth() {
        SignalBoard x = new SignalBoard(1);
        for (int i = 0; i < 256; i++) {
            Checks.store1(x, 0, 255 - i);
        }
        for (int k = 0; k < 256; k++) {
            Checks.same("out " + k, x.out(k), 255 - k);
        }
    }

    private static void none() {
        SignalBoard x = new SignalBoard(1);
        Checks.same("at first", x.out(0), -1);
        Checks.store1(x, 0, 9);
        Checks.same("the only one", x.out(0), 9);
        for (long k : new long[] {1, 2, 4095, 4096, 1L << 32, Long.MAX_VALUE, -1, -4096, Long.MIN_VALUE, Long.MIN_VALUE + 1}) {
            Checks.same("out " + k, x.out(k), -1);
        }
    }

    /** It takes more than the 512 calls that the document speaks of to see this; so far this class goes on alike. */
    private static void keptNoMore() {
        SignalBoard x = new SignalBoard(1);
        for (int i = 0; i < 4096 + 3; i++) {
            Checks.store1(x, 0, 7);
        }
        for (int k = 0; k < 3; k++) {
            Checks.same("kept no more: " + k, x.out(k), -1);
        }
        Checks.same("the first that is kept", x.out(3), 7);
        Checks.same("the last", x.out(4098), 7);
        Checks.same("not sent yet", x.out(4099), -1);
        Checks.same("far back", x.out(Long.MIN_VALUE), -1);
    }
}
