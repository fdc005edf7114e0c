/** Promise 3: read, in the three windows. */
public final class Promise03ReadTest {
    public static void main(String[] args) {
        refusesWrongInput();
        readsTimer();
        readsPlainControllerRegisters();
        claims();
        claimsOnlyWhatIsEnabledAndHasPriority();
        readsIn();
        readsCause();
        readsLineState();
        readsModemState();
        otherSizesReadNothing();
        Checks.end();
    }

    private static void refusesWrongInput() {
        SignalBoard x = new SignalBoard(2);
        for (int window : new int[] {-1, 3, 4, 256, Integer.MAX_VALUE, Integer.MIN_VALUE}) {
            Checks.refused("read window " + window, () -> x.read(window, 0, 4));
        }
        for (int window = 0; window < 3; window++) {
            int w = window;
            for (int size : new int[] {0, 3, 5, 6, 7, 9, 16, -1, -4, Integer.MIN_VALUE, Integer.MAX_VALUE}) {
                Checks.refused("read size " + size, () -> x.read(w, 0, size));
            }
            for (long offset : new long[] {-1, -4, -8, Long.MIN_VALUE}) {
                Checks.refused("read offset " + offset, () -> x.read(w, offset, 4));
            }
            for (int size : new int[] {1, 2, 4, 8}) {
                for (long offset : new long[] {Long.MAX_VALUE, Long.MAX_VALUE - 7, 1L << 32, (1L << 32) + 5}) {
                    Checks.same("read far " + offset, x.read(w, offset, size), 0);
                }
            }
        }
    }

    private static void readsTimer() {
        SignalBoard x = new SignalBoard(3);
        x.pass(0x8123456789ABCDEFL);
        Checks.same("TIME", x.read(Checks.TIMER, Checks.TIME, 8), 0x8123456789ABCDEFL);
        Checks.same("TIME lower", x.read(Checks.TIMER, Checks.TIME, 4), 0x89ABCDEFL);
        Checks.same("TIME upper", x.read(Checks.TIMER, Checks.TIME + 4, 4), 0x81234567L);
        for (long h = 0; h < 3; h++) {
            x.write(Checks.TIMER, Checks.COMPARE + 8 * h, 8, 0xF0000001E0000002L + h);
        }
        for (long h = 0; h < 3; h++) {
            long at = Checks.COMPARE + 8 * h;
            Checks.same("COMPARE", x.read(Checks.TIMER, at, 8), 0xF0000001E0000002L + h);
            Checks.same("COMPARE lower", x.read(Checks.TIMER, at, 4), 0xE0000002L + h);
            Checks.same("COMPARE upper", x.read(Checks.TIMER, at + 4, 4), 0xF0000001L);
            for (int amid = 1; amid < 8; amid++) {
                Checks.same("COMPARE + " + amid, x.read(Checks.TIMER, at + amid, 8), 0);
                if (amid != 4) {
                    Checks.same("COMPARE + " + amid, x.read(Checks.TIMER, at + amid, 4), 0);
                }
            }
        }
        Checks.same("COMPARE of none", x.read(Checks.TIMER, Checks.COMPARE + 24, 8), 0);
        Checks.same("before COMPARE", x.read(Checks.TIMER, Checks.COMPARE - 4, 4), 0);
        Checks.same("before TIME", x.read(Checks.TIMER, Checks.TIME - 4, 4), 0);
        Checks.same("behind TIME", x.read(Checks.TIMER, Checks.TIME + 8, 4), 0);
        x.write(Checks.TIMER, 8, 4, 1);
        Checks.same("SOFT 1", x.read(Checks.TIMER, 4, 4), 0);
        Checks.same("SOFT 2", x.read(Checks.TIMER, 8, 4), 1);
    }

    private static void readsPlainControllerRegisters() {
        SignalBoard x = new SignalBoard(4);
        for (int s = 1; s < 32; s++) {
            Checks.store4(x, 4L * s, s & 7);
        }
        for (int s = 1; s < 32; s++) {
            Checks.same("priority " + s, Checks.load4(x, 4L * s), s & 7);
        }
        for (int c = 0; c < 8; c++) {
            Checks.store4(x, Checks.enables(c), 0x80000000L + 2 * c);
            Checks.store4(x, Checks.threshold(c), 7 - c);
        }
        for (int c = 0; c < 8; c++) {
            Checks.same("enables " + c, Checks.load4(x, Checks.enables(c)), 0x80000000L + 2 * c);
            Checks.same("threshold " + c, Checks.load4(x, Checks.threshold(c)), 7 - c);
        }
        Checks.same("amid priorities", Checks.load4(x, 5), 0);
        Checks.same("behind priorities", Checks.load4(x, 128), 0);
        Checks.same("amid enables", Checks.load4(x, Checks.enables(1) + 4), 0);
        Checks.same("behind enables", Checks.load4(x, Checks.enables(8)), 0);
        Checks.same("behind thresholds", Checks.load4(x, Checks.threshold(8)), 0);
        Checks.same("behind a claim", Checks.load4(x, Checks.claim(1) + 4), 0);
    }

    private static void claims() {
        SignalBoard x = new SignalBoard(2);
        int[] sources = {31, 4, 7, 20, 1};
        int[] priorities = {5, 5, 7, 1, 1};
        for (int i = 0; i < sources.length; i++) {
            Checks.store4(x, 4L * sources[i], priorities[i]);
            x.signal(sources[i], true);
            x.signal(sources[i], false);
        }
        Checks.store4(x, Checks.enables(3), -1);
        Checks.store4(x, Checks.threshold(3), 7);
        Checks.same("waiting", Checks.load4(x, Checks.WAITING), 1L << 31 | 1 << 4 | 1 << 7 | 1 << 20 | 1 << 1);
        for (int due : new int[] {7, 4, 31, 1, 20, 0, 0}) {
            Checks.same("claim", Checks.load4(x, Checks.claim(3)), due);
        }
        Checks.same("waiting after all", Checks.load4(x, Checks.WAITING), 0);
    }

    private static void claimsOnlyWhatIsEnabledAndHasPriority() {
        SignalBoard x = new SignalBoard(1);
        x.signal(5, true);
        x.signal(6, true);
        Checks.store4(x, 20, 1);
        Checks.store4(x, 24, 7);
        Checks.store4(x, Checks.enables(0), 1 << 5 | 1 << 8);
        Checks.store4(x, Checks.enables(1), 1 << 8);
        Checks.same("claim of another context", Checks.load4(x, Checks.claim(1)), 0);
        Checks.same("claim", Checks.load4(x, Checks.claim(0)), 5);
        Checks.same("claimed, signal still on", Checks.load4(x, Checks.WAITING), 1 << 6);
        Checks.same("claim again", Checks.load4(x, Checks.claim(0)), 0);
        x.signal(8, true);
        Checks.same("claim without priority", Checks.load4(x, Checks.claim(0)), 0);
        Checks.same("it waits on", Checks.load4(x, Checks.WAITING), 1 << 6 | 1 << 8);
        Checks.same("claim by a context that is not", Checks.load4(x, Checks.claim(2)), 0);
    }

    private static void readsIn() {
        SignalBoard x = new SignalBoard(1);
        Checks.store1(x, 2, 1);
        for (int round = 0; round < 5; round++) {
            for (int i = 0; i < 7; i++) {
                x.come(100 + round * 10 + i);
            }
            for (int i = 0; i < 7; i++) {
                Checks.same("first of IN", Checks.load1(x, 0), 100 + round * 10 + i);
            }
            Checks.same("IN is empty", Checks.load1(x, 0), 0);
        }
        x.come(9);
        Checks.store1(x, 3, 128);
        Checks.same("register 0 is another", Checks.load1(x, 0), 0);
        Checks.same("nothing was taken", x.room(), 15);
    }

    private static void readsCause() {
        SignalBoard x = new SignalBoard(1);
        x.come(1);
        x.come(2);
        Checks.same("nothing enabled", Checks.load1(x, 2), 1);
        Checks.store1(x, 1, 7);
        Checks.same("overrun", Checks.load1(x, 2), 6);
        Checks.same("overrun stays", Checks.load1(x, 2), 6);
        Checks.store1(x, 1, 3);
        Checks.same("byte", Checks.load1(x, 2), 4);
        Checks.store1(x, 1, 6);
        Checks.load1(x, 5);
        Checks.same("emptied", Checks.load1(x, 2), 2);
        Checks.same("emptied no more", Checks.load1(x, 2), 1);
        Checks.store1(x, 0, 33);
        Checks.store1(x, 1, 4);
        Checks.same("not enabled", Checks.load1(x, 2), 1);
        Checks.store1(x, 1, 3);
        Checks.same("byte before emptied", Checks.load1(x, 2), 4);
        Checks.load1(x, 0);
        Checks.store1(x, 2, 1);
        Checks.same("emptied, with the queue bit", Checks.load1(x, 2), 194);
        Checks.same("none, with the queue bit", Checks.load1(x, 2), 193);
        Checks.store1(x, 0, 33);
        Checks.store1(x, 1, 0);
        Checks.same("cause 1 does not end emptied", Checks.load1(x, 2), 193);
        Checks.store1(x, 1, 8);
        Checks.same("bit 3 enables no cause", Checks.load1(x, 2), 193);
    }

    private static void readsLineState() {
        SignalBoard x = new SignalBoard(1);
        Checks.same("empty", Checks.load1(x, 5), 96);
        x.come(1);
        Checks.same("a byte", Checks.load1(x, 5), 97);
        x.come(2);
        Checks.load1(x, 0);
        Checks.same("overrun, IN empty", Checks.load1(x, 5), 98);
        Checks.same("overrun no more", Checks.load1(x, 5), 96);
    }

    private static void readsModemState() {
        SignalBoard x = new SignalBoard(1);
        int[] shown = {0, 32, 16, 48, 64, 96, 80, 112, 128, 160, 144, 176, 192, 224, 208, 240};
        for (int low = 0; low < 16; low++) {
            Checks.store1(x, 4, low);
            Checks.same("register 6, no loop", Checks.load1(x, 6), 176);
            Checks.store1(x, 4, 16 | low);
            Checks.same("register 6, loop " + low, Checks.load1(x, 6), shown[low]);
        }
    }

    private static void otherSizesReadNothing() {
        SignalBoard x = new SignalBoard(2);
        x.write(Checks.TIMER, 0, 4, 1);
        x.pass(-1);
        Checks.store4(x, 4, 1);
        Checks.store4(x, Checks.enables(0), 2);
        x.signal(1, true);
        x.come(5);
        x.come(6);
        Checks.store1(x, 7, 77);
        for (int size : new int[] {1, 2, 8}) {
            Checks.same("SOFT", x.read(Checks.TIMER, 0, size), 0);
            Checks.same("priority", x.read(Checks.CONTROLLER, 4, size), 0);
            Checks.same("waiting", x.read(Checks.CONTROLLER, Checks.WAITING, size), 0);
            Checks.same("enables", x.read(Checks.CONTROLLER, Checks.enables(0), size), 0);
            Checks.same("claim", x.read(Checks.CONTROLLER, Checks.claim(0), size), 0);
        }
        for (int size : new int[] {1, 2}) {
            Checks.same("TIME", x.read(Checks.TIMER, Checks.TIME, size), 0);
            Checks.same("COMPARE", x.read(Checks.TIMER, Checks.COMPARE, size), 0);
        }
        for (int size : new int[] {2, 4, 8}) {
            for (int r = 0; r < 8; r++) {
                Checks.same("register " + r, x.read(Checks.SERIAL, r, size), 0);
            }
        }
        Checks.same("register 8", Checks.load1(x, 8), 0);
        Checks.same("nothing was claimed", Checks.load4(x, Checks.claim(0)), 1);
        Checks.same("nothing was taken, overrun stays", Checks.load1(x, 5), 99);
    }
}
