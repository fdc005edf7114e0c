/** Promise 4: write, in the three windows. */
public final class Promise04WriteTest {
    public static void main(String[] args) {
        refusesWrongInput();
        writesTimer();
        writesPlainControllerRegisters();
        knowsNoContextsBeyond();
        completes();
        completesOnlyWhatIsEnabledAndServed();
        writesPlainSerialRegisters();
        showsOthers();
        sendsOrLoops();
        empties();
        queues();
        otherSizesChangeNothing();
        Checks.end();
    }

    private static void refusesWrongInput() {
        SignalBoard x = new SignalBoard(2);
        for (int window : new int[] {-1, 3, 4, 256, Integer.MAX_VALUE, Integer.MIN_VALUE}) {
            Checks.refused("write window " + window, () -> x.write(window, 0, 4, 1));
        }
        for (int window = 0; window < 3; window++) {
            int w = window;
            for (int size : new int[] {0, 3, 5, 6, 7, 9, 16, -1, -4, Integer.MIN_VALUE, Integer.MAX_VALUE}) {
                Checks.refused("write size " + size, () -> x.write(w, 0, size, 1));
            }
            for (long offset : new long[] {-1, -4, -8, Long.MIN_VALUE}) {
                Checks.refused("write offset " + offset, () -> x.write(w, offset, 4, 1));
            }
            for (int size : new int[] {1, 2, 4, 8}) {
                for (long offset : new long[] {Long.MAX_VALUE, Long.MAX_VALUE - 7, 1L << 32, (1L << 32) + 4}) {
                    x.write(w, offset, size, -1);
                }
            }
        }
        Checks.same("SOFT", x.read(Checks.TIMER, 0, 4), 0);
        Checks.same("priority", Checks.load4(x, 4), 0);
        Checks.same("sent", x.sent(), 0);
        Checks.same("register 4", Checks.load1(x, 4), 0);
    }

    private static void writesTimer() {
        SignalBoard x = new SignalBoard(2);
        x.write(Checks.TIMER, 0, 4, 0xFFFFFFFEL);
        Checks.same("SOFT without bit 0", x.read(Checks.TIMER, 0, 4), 0);
        x.write(Checks.TIMER, 0, 4, -1);
        Checks.same("SOFT", x.read(Checks.TIMER, 0, 4), 1);
        x.write(Checks.TIMER, 0, 4, 1L << 32);
        Checks.same("SOFT of the lowest bytes", x.read(Checks.TIMER, 0, 4), 0);
        for (long at : new long[] {Checks.COMPARE, Checks.COMPARE + 8, Checks.TIME}) {
            x.write(Checks.TIMER, at, 8, 0x1122334455667788L);
            Checks.same("whole", x.read(Checks.TIMER, at, 8), 0x1122334455667788L);
            x.write(Checks.TIMER, at, 4, 0x0BADF00DFEDCBA98L);
            Checks.same("lower half", x.read(Checks.TIMER, at, 8), 0x11223344FEDCBA98L);
            x.write(Checks.TIMER, at + 4, 4, 0x0BADF00D89ABCDEFL);
            Checks.same("upper half", x.read(Checks.TIMER, at, 8), 0x89ABCDEFFEDCBA98L);
            for (int amid = 0; amid < 8; amid++) {
                for (int size : new int[] {1, 2, 4, 8}) {
                    if (size < 4 || amid % size != 0) {
                        x.write(Checks.TIMER, at + amid, size, 0);
                    }
                }
            }
            Checks.same("others change nothing", x.read(Checks.TIMER, at, 8), 0x89ABCDEFFEDCBA98L);
        }
        x.write(Checks.TIMER, 8, 4, 1);
        x.write(Checks.TIMER, Checks.COMPARE + 16, 8, 5);
        Checks.same("SOFT of none", x.read(Checks.TIMER, 8, 4), 0);
        Checks.same("COMPARE of none", x.read(Checks.TIMER, Checks.COMPARE + 16, 8), 0);
    }

    private static void writesPlainControllerRegisters() {
        SignalBoard x = new SignalBoard(1);
        Checks.store4(x, 124, 0xFFFFFFFDL);
        Checks.same("priority", Checks.load4(x, 124), 5);
        Checks.store4(x, 0, 7);
        Checks.same("priority of 0", Checks.load4(x, 0), 0);
        Checks.store4(x, 128, 7);
        Checks.same("priority of 32", Checks.load4(x, 128), 0);
        Checks.store4(x, Checks.enables(1), 0x1FFFFFFFFL);
        Checks.same("enables", Checks.load4(x, Checks.enables(1)), 0xFFFFFFFEL);
        Checks.same("enables of another", Checks.load4(x, Checks.enables(0)), 0);
        Checks.store4(x, Checks.threshold(1), 0xEL);
        Checks.same("threshold", Checks.load4(x, Checks.threshold(1)), 6);
        Checks.same("threshold of another", Checks.load4(x, Checks.threshold(0)), 0);
        x.signal(2, true);
        Checks.store4(x, Checks.WAITING, 0);
        Checks.store4(x, Checks.WAITING, -1);
        Checks.same("waiting", Checks.load4(x, Checks.WAITING), 4);
    }

    private static void knowsNoContextsBeyond() {
        for (int count = 1; count <= 4; count++) {
            SignalBoard x = new SignalBoard(count);
            for (int c = 2 * count; c < 12; c++) {
                Checks.store4(x, Checks.enables(c), -1);
                Checks.store4(x, Checks.threshold(c), -1);
                Checks.same("enables beyond", Checks.load4(x, Checks.enables(c)), 0);
                Checks.same("threshold beyond", Checks.load4(x, Checks.threshold(c)), 0);
            }
        }
    }

    private static void completes() {
        SignalBoard x = new SignalBoard(1);
        Checks.store4(x, 4, 3);
        Checks.store4(x, Checks.enables(0), 2);
        x.signal(1, true);
        Checks.same("claim", Checks.load4(x, Checks.claim(0)), 1);
        Checks.store4(x, Checks.claim(0), 1);
        Checks.same("signal on: waits again", Checks.load4(x, Checks.WAITING), 2);
        Checks.same("claim again", Checks.load4(x, Checks.claim(0)), 1);
        x.signal(1, false);
        Checks.store4(x, Checks.claim(0), 1);
        Checks.same("signal off: waits no more", Checks.load4(x, Checks.WAITING), 0);
        x.signal(1, true);
        Checks.same("waits at the next signal", Checks.load4(x, Checks.WAITING), 2);
        Checks.store4(x, Checks.claim(0), 1);
        Checks.same("what waits is not completed", Checks.load4(x, Checks.WAITING), 2);
        Checks.load4(x, Checks.claim(0));
        x.write(Checks.CONTROLLER, Checks.claim(0), 4, 1L << 32 | 1);
        Checks.same("the lowest 4 bytes count", Checks.load4(x, Checks.WAITING), 2);
    }

    private static void completesOnlyWhatIsEnabledAndServed() {
        SignalBoard x = new SignalBoard(1);
        Checks.store4(x, 12, 1);
        Checks.store4(x, Checks.enables(0), 8);
        Checks.store4(x, Checks.enables(1), ~8);
        x.signal(3, true);
        Checks.same("claim", Checks.load4(x, Checks.claim(0)), 3);
        Checks.store4(x, Checks.claim(1), 3);
        for (long none : new long[] {0, 32, 35, 67, 256 + 3, 0x80000003L, 0xFFFFFFE3L, -1}) {
            Checks.store4(x, Checks.claim(0), none);
        }
        Checks.store4(x, Checks.claim(2), 3);
        x.write(Checks.CONTROLLER, Checks.claim(0), 8, 3);
        x.write(Checks.CONTROLLER, Checks.claim(0), 1, 3);
        Checks.same("still served", Checks.load4(x, Checks.WAITING), 0);
        Checks.store4(x, Checks.enables(1), 8);
        Checks.store4(x, Checks.claim(1), 3);
        Checks.same("completed by another context", Checks.load4(x, Checks.WAITING), 8);
    }

    private static void writesPlainSerialRegisters() {
        SignalBoard x = new SignalBoard(1);
        int[] kept = {0, 15, 193, 127, 31, 96, 240, 255};
        for (int r = 1; r < 8; r++) {
            Checks.store1(x, r, r == 3 ? 0x17F : -1);
        }
        Checks.load1(x, 2);
        for (int r = 0; r < 8; r++) {
            Checks.same("register " + r, Checks.load1(x, r), kept[r]);
        }
        Checks.store1(x, 8, 1);
        Checks.same("register 8", Checks.load1(x, 8), 0);
    }

    private static void showsOthers() {
        SignalBoard x = new SignalBoard(1);
        Checks.store1(x, 1, 5);
        Checks.store1(x, 3, 128);
        Checks.store1(x, 0, 0x1AB);
        Checks.store1(x, 1, 0xCD);
        Checks.same("other 0", Checks.load1(x, 0), 0xAB);
        Checks.same("other 1", Checks.load1(x, 1), 0xCD);
        Checks.same("nothing was sent", x.sent(), 0);
        x.come(66);
        Checks.same("causes go by register 1", Checks.load1(x, 2), 4);
        Checks.store1(x, 4, 3);
        Checks.same("register 4 is the same", Checks.load1(x, 4), 3);
        Checks.same("register 5 is the same", Checks.load1(x, 5), 97);
        Checks.store1(x, 3, 127);
        Checks.same("register 1 as before", Checks.load1(x, 1), 5);
        Checks.same("register 0 as before", Checks.load1(x, 0), 66);
        Checks.store1(x, 0, 1);
        Checks.store1(x, 1, 2);
        Checks.store1(x, 3, 255);
        Checks.same("other 0 is kept", Checks.load1(x, 0), 0xAB);
        Checks.same("other 1 is kept", Checks.load1(x, 1), 0xCD);
    }

    private static void sendsOrLoops() {
        SignalBoard x = new SignalBoard(1);
        Checks.store1(x, 0, 0x1F0);
        Checks.same("sent", x.sent(), 1);
        Checks.same("out", x.out(0), 0xF0);
        Checks.same("IN is untouched", x.room(), 1);
        Checks.store1(x, 4, 16);
        Checks.store1(x, 0, 0x1F1);
        Checks.store1(x, 0, 0xF2);
        Checks.same("not sent out", x.sent(), 1);
        Checks.same("came, and an overrun", Checks.load1(x, 5), 99);
        Checks.same("came into IN", Checks.load1(x, 0), 0xF1);
        Checks.store1(x, 4, 15);
        Checks.store1(x, 0, 0xF3);
        Checks.same("sent again", x.out(1), 0xF3);
    }

    private static void empties() {
        SignalBoard x = new SignalBoard(1);
        Checks.store1(x, 1, 2);
        Checks.same("bit 1 became 1", Checks.load1(x, 2), 2);
        Checks.store1(x, 1, 2);
        Checks.same("bit 1 was 1", Checks.load1(x, 2), 1);
        Checks.store1(x, 1, 0);
        Checks.store1(x, 1, 2);
        Checks.same("bit 1 became 1 again", Checks.load1(x, 2), 2);
        Checks.store1(x, 0, 1);
        Checks.same("sending empties", Checks.load1(x, 2), 2);
        Checks.store1(x, 4, 16);
        Checks.store1(x, 0, 1);
        Checks.same("looping empties", Checks.load1(x, 2), 2);
        Checks.same("emptied no more", Checks.load1(x, 2), 1);
        Checks.store1(x, 2, 3);
        Checks.same("IN being emptied is something else", Checks.load1(x, 2), 193);
    }

    private static void queues() {
        SignalBoard x = new SignalBoard(1);
        x.come(1);
        Checks.store1(x, 2, 0xFC);
        Checks.same("same bit keeps IN", x.room(), 0);
        x.come(2);
        Checks.store1(x, 2, 1);
        Checks.same("other bit empties IN", x.room(), 16);
        Checks.same("overrun stays", Checks.load1(x, 5), 98);
        x.come(3);
        Checks.store1(x, 2, 1);
        Checks.same("same bit keeps IN", x.room(), 15);
        Checks.store1(x, 2, 3);
        Checks.same("bit 1 empties IN", x.room(), 16);
        x.come(4);
        Checks.store1(x, 2, 0);
        Checks.same("other bit empties IN", x.room(), 1);
        x.come(5);
        Checks.store1(x, 2, 2);
        Checks.same("bit 1 empties IN", x.room(), 1);
        Checks.same("the queue bit is 0", Checks.load1(x, 2), 1);
        x.come(6);
        Checks.same("IN starts anew", Checks.load1(x, 0), 6);
    }

    private static void otherSizesChangeNothing() {
        SignalBoard x = new SignalBoard(1);
        for (int size : new int[] {1, 2, 8}) {
            x.write(Checks.TIMER, 0, size, 1);
            x.write(Checks.CONTROLLER, 4, size, 1);
            x.write(Checks.CONTROLLER, Checks.enables(0), size, 2);
            x.write(Checks.CONTROLLER, Checks.threshold(0), size, 2);
        }
        for (int size : new int[] {2, 4, 8}) {
            for (int r = 0; r < 8; r++) {
                x.write(Checks.SERIAL, r, size, 3);
            }
        }
        Checks.same("SOFT", x.read(Checks.TIMER, 0, 4), 0);
        Checks.same("priority", Checks.load4(x, 4), 0);
        Checks.same("enables", Checks.load4(x, Checks.enables(0)), 0);
        Checks.same("threshold", Checks.load4(x, Checks.threshold(0)), 0);
        Checks.same("sent", x.sent(), 0);
        int[] registers = {0, 0, 1, 0, 0, 96, 176, 0};
        for (int r = 0; r < 8; r++) {
            Checks.same("register " + r, Checks.load1(x, r), registers[r]);
        }
        Checks.store1(x, 5, 255);
        Checks.store1(x, 6, 255);
        Checks.same("register 5", Checks.load1(x, 5), 96);
        Checks.same("register 6", Checks.load1(x, 6), 176);
    }
}
