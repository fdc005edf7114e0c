/** The edges that the document names for the serial line and OUT, sentence by sentence. */
public final class SerialEdgesTest {
    private static final int LOOP = 16;

    public static void main(String[] args) {
        Checks.sentence("THE SERIAL LINE has registers of one byte at 0 .. 7.", SerialEdgesTest::registers);
        Checks.sentence("it has room for 16 if the QUEUE BIT is 1,", SerialEdgesTest::roomFor16);
        Checks.sentence("else for 1.", SerialEdgesTest::roomFor1);
        Checks.sentence("A byte that comes when there is no room is lost,", SerialEdgesTest::lost);
        Checks.sentence("and there is an OVERRUN.", SerialEdgesTest::overrun);
        Checks.sentence("At first all registers are 0, IN is empty.", SerialEdgesTest::atFirst);
        Checks.sentence("3, 7: any byte.", SerialEdgesTest::anyByte);
        Checks.sentence("When bit 7 of register 3 is 1, 0 and 1 are two others that hold any byte.", SerialEdgesTest::others);
        Checks.sentence("0: reading takes the first byte of IN", SerialEdgesTest::takesTheFirst);
        Checks.sentence("(0 when it is empty).", SerialEdgesTest::takesNothing);
        Checks.sentence("Writing SENDS a byte: it is OUT,", SerialEdgesTest::sends);
        Checks.sentence("or, when bit 4 of register 4 is 1, it comes into IN instead;", SerialEdgesTest::loops);
        Checks.sentence("and it is EMPTIED then.", SerialEdgesTest::sendingEmpties);
        Checks.sentence("1: the lowest 4 bits;", () -> keeps(1, 15));
        Checks.sentence("EMPTIED, too, when bit 1 becomes 1 and was 0.", SerialEdgesTest::enablingEmpties);
        Checks.sentence("4: the lowest 5 bits.", () -> keeps(4, 31));
        Checks.sentence("2: reading: the CAUSE, and 192 if the queue bit is 1.", SerialEdgesTest::causeAndQueueBit);
        Checks.sentence("Causes: 6, if bit 2 of register 1 is 1 and there is an overrun;", SerialEdgesTest::cause6);
        Checks.sentence("else 4, if bit 0 is 1 and IN is not empty;", SerialEdgesTest::cause4);
        Checks.sentence("else 2, if bit 1 is 1 and it is emptied;", SerialEdgesTest::cause2);
        Checks.sentence("else 1.", SerialEdgesTest::cause1);
        Checks.sentence("When 2 is read so, it is emptied no more.", SerialEdgesTest::emptiedNoMore);
        Checks.sentence("Writing: the queue bit becomes bit 0;", SerialEdgesTest::queueBit);
        Checks.sentence("IN is emptied if that was another one,", SerialEdgesTest::anotherQueueBit);
        Checks.sentence("or bit 1 is 1", SerialEdgesTest::clearBit);
        Checks.sentence("(an overrun stays).", SerialEdgesTest::overrunStays);
        Checks.sentence("5: reading: 96, and 1 if IN is not empty, 2 if there is an overrun;", SerialEdgesTest::lineState);
        Checks.sentence("there is none any more then.", SerialEdgesTest::overrunEnds);
        Checks.sentence("5: Writing changes nothing.", () -> writingChangesNothing(5));
        Checks.sentence("6: reading: 176 when bit 4 of register 4 is 0;", SerialEdgesTest::modemWithoutLoop);
        Checks.sentence("else 16, 32, 64, 128 for bits 1, 0, 2, 3 of that.", SerialEdgesTest::modemWithLoop);
        Checks.sentence("6: Writing changes nothing.", () -> writingChangesNothing(6));
        Checks.sentence("The signal of source 10 is on when the cause is not 1.", SerialEdgesTest::source10);
        Checks.sentence("OUT keeps the latest 4,096 bytes that were sent.", SerialEdgesTest::latest);
        Checks.end();
    }

    private static SignalBoard withQueue() {
        SignalBoard x = new SignalBoard(1);
        Checks.store1(x, 2, 1);
        return x;
    }

    /** So many bytes come: 1, 2, 3 .. */
    private static SignalBoard fed(SignalBoard x, int bytes) {
        for (int i = 1; i <= bytes; i++) {
            x.come(i);
        }
        return x;
    }

    private static SignalBoard fed(int bytes) {
        return fed(new SignalBoard(1), bytes);
    }

    private static void registers() {
        SignalBoard x = new SignalBoard(1);
        Checks.store1(x, 3, 128);
        for (int r : new int[] {0, 1, 7}) {
            Checks.store1(x, r, 100 + r);
        }
        for (long none : new long[] {8, 9, 15, 16, 256, 1L << 32, Long.MAX_VALUE}) {
            Checks.store1(x, none, 255);
            Checks.same("register " + none, Checks.load1(x, none), 0);
        }
        for (int size : new int[] {2, 4, 8}) {
            for (int r = 0; r < 8; r++) {
                x.write(Checks.SERIAL, r, size, -1);
                Checks.same("register " + r + ", size " + size, x.read(Checks.SERIAL, r, size), 0);
            }
        }
        int[] kept = {100, 101, 1, 128, 0, 96, 176, 107};
        for (int r = 0; r < 8; r++) {
            Checks.same("register " + r, Checks.load1(x, r), kept[r]);
        }
        Checks.refused("register -1", () -> Checks.load1(x, -1));
    }

    private static void roomFor16() {
        SignalBoard x = withQueue();
        for (int i = 0; i < 16; i++) {
            Checks.same("room before byte " + i, x.room(), 16 - i);
            Checks.same("byte " + i, x.come(i), true);
        }
        Checks.same("room when full", x.room(), 0);
        Checks.same("byte 16", x.come(16), false);
    }

    private static void roomFor1() {
        SignalBoard x = new SignalBoard(1);
        Checks.same("room when empty", x.room(), 1);
        Checks.same("first byte", x.come(1), true);
        Checks.same("room when full", x.room(), 0);
        Checks.same("second byte", x.come(2), false);
        Checks.store1(x, 2, 1);
        Checks.store1(x, 2, 0);
        Checks.same("room when the queue bit is 0 again", x.room(), 1);
        Checks.same("first byte then", x.come(1), true);
        Checks.same("second byte then", x.come(2), false);
    }

    private static void lost() {
        SignalBoard x = fed(3);
        Checks.same("the one with room", Checks.load1(x, 0), 1);
        Checks.same("IN is empty then", Checks.load1(x, 5) & 1, 0);
        Checks.same("nothing more", Checks.load1(x, 0), 0);

        SignalBoard y = fed(withQueue(), 18);
        for (int i = 1; i <= 16; i++) {
            Checks.same("in the order they came", Checks.load1(y, 0), i);
        }
        Checks.same("nothing more with the queue", Checks.load1(y, 0), 0);
    }

    private static void overrun() {
        Checks.same("1 of 1", Checks.load1(fed(1), 5), 97);
        Checks.same("2 of 1", Checks.load1(fed(2), 5), 99);
        Checks.same("16 of 16", Checks.load1(fed(withQueue(), 16), 5), 97);
        Checks.same("17 of 16", Checks.load1(fed(withQueue(), 17), 5), 99);
        SignalBoard x = new SignalBoard(1);
        Checks.store1(x, 4, LOOP);
        Checks.store1(x, 0, 1);
        Checks.same("1 of 1 by the loop", Checks.load1(x, 5), 97);
        Checks.store1(x, 0, 2);
        Checks.same("2 of 1 by the loop", Checks.load1(x, 5), 99);
    }

    private static void atFirst() {
        SignalBoard x = new SignalBoard(1);
        for (int r : new int[] {0, 1, 3, 4, 7}) {
            Checks.same("register " + r, Checks.load1(x, r), 0);
        }
        Checks.same("no cause, the queue bit is 0", Checks.load1(x, 2), 1);
        Checks.same("IN is empty, no overrun", Checks.load1(x, 5), 96);
        Checks.same("room", x.room(), 1);
        Checks.store1(x, 3, 128);
        Checks.same("the other 0", Checks.load1(x, 0), 0);
        Checks.same("the other 1", Checks.load1(x, 1), 0);
        Checks.same("source 10 does not wait", Checks.load4(x, Checks.WAITING), 0);
    }

    private static void anyByte() {
        for (int r : new int[] {3, 7}) {
            keeps(r, 255);
        }
    }

    /** Every byte is written to a register, and beyond bytes; so many of its bits are kept. */
    private static void keeps(int register, int bits) {
        SignalBoard x = new SignalBoard(1);
        for (int b = 0; b < 256; b += 5) {
            Checks.store1(x, register, b);
            Checks.same("register " + register + " after " + b, Checks.load1(x, register), b & bits);
        }
        for (long v : new long[] {256, 257, -1, -256, Long.MIN_VALUE, Long.MAX_VALUE}) {
            Checks.store1(x, register, v);
            Checks.same("register " + register + " after " + v, Checks.load1(x, register), v & bits);
        }
    }

    private static void others() {
        SignalBoard x = fed(1);
        Checks.store1(x, 1, 9);
        Checks.store1(x, 3, 128);
        for (int b : new int[] {0, 1, 16, 128, 254, 255, 256, -1}) {
            Checks.store1(x, 0, b);
            Checks.store1(x, 1, ~b);
            Checks.same("the other 0 after " + b, Checks.load1(x, 0), b & 255);
            Checks.same("the other 1 after " + ~b, Checks.load1(x, 1), ~b & 255);
        }
        Checks.same("nothing was sent", x.sent(), 0);
        Checks.same("nothing was taken", x.room(), 0);
        Checks.store1(x, 3, 127);
        Checks.same("register 1 when bit 7 is 0", Checks.load1(x, 1), 9);
        Checks.same("register 0 when bit 7 is 0", Checks.load1(x, 0), 1);
        Checks.store1(x, 3, 255);
        Checks.same("the other 0 is kept", Checks.load1(x, 0), 255);
        Checks.same("the other 1 is kept", Checks.load1(x, 1), 0);
    }

    private static void takesTheFirst() {
        SignalBoard x = withQueue();
        fed(x, 12);
        for (int i = 1; i <= 10; i++) {
            Checks.same("byte " + i, Checks.load1(x, 0), i);
        }
        fed(x, 14);
        Checks.same("full again", x.room(), 0);
        for (int due : new int[] {11, 12, 1, 2, 3, 4, 5, 6, 7, 8, 9, 10, 11, 12, 13, 14}) {
            Checks.same("byte", Checks.load1(x, 0), due);
        }
        Checks.same("empty again", x.room(), 16);
    }

    private static void takesNothing() {
        for (SignalBoard x : new SignalBoard[] {new SignalBoard(1), withQueue()}) {
            int room = x.room();
            Checks.same("at first", Checks.load1(x, 0), 0);
            Checks.same("room", x.room(), room);
            x.come(77);
            Checks.same("a byte", Checks.load1(x, 0), 77);
            for (int again = 0; again < 3; again++) {
                Checks.same("empty again", Checks.load1(x, 0), 0);
            }
            Checks.same("room again", x.room(), room);
            x.come(78);
            Checks.same("a later byte", Checks.load1(x, 0), 78);
        }
        SignalBoard full = fed(withQueue(), 16);
        for (int i = 0; i < 16; i++) {
            Checks.load1(full, 0);
        }
        Checks.same("empty after it was full", Checks.load1(full, 0), 0);
        SignalBoard cleared = fed(withQueue(), 3);
        Checks.store1(cleared, 2, 3);
        Checks.same("empty after it was emptied", Checks.load1(cleared, 0), 0);
    }

    private static void sends() {
        SignalBoard x = new SignalBoard(1);
        int[] bytes = {0, 1, 127, 128, 255, 256, 511, -1};
        for (int i = 0; i < bytes.length; i++) {
            Checks.store1(x, 4, 15);
            Checks.store1(x, 0, bytes[i]);
            Checks.same("sent", x.sent(), i + 1);
            Checks.same("out " + i, x.out(i), bytes[i] & 255);
        }
        Checks.same("IN is empty on", x.room(), 1);
    }

    private static void loops() {
        SignalBoard x = withQueue();
        Checks.store1(x, 4, LOOP);
        for (int b : new int[] {0, 255, 256 + 7}) {
            Checks.store1(x, 0, b);
        }
        Checks.same("room", x.room(), 13);
        Checks.same("none is sent", x.sent(), 0);
        Checks.same("none is out", x.out(0), -1);
        for (int due : new int[] {0, 255, 7}) {
            Checks.same("came", Checks.load1(x, 0), due);
        }
        x.come(5);
        Checks.same("others come as well", Checks.load1(x, 0), 5);
        for (int i = 0; i < 17; i++) {
            Checks.store1(x, 0, 100 + i);
        }
        Checks.same("full, one is lost", Checks.load1(x, 5), 99);
        Checks.same("the first", Checks.load1(x, 0), 100);
        Checks.same("the lost one is not out either", x.sent(), 0);
    }

    /** Bit 1 of register 1 is 1, and it is emptied no more. */
    private static SignalBoard withEmptiedEnabled() {
        SignalBoard x = new SignalBoard(1);
        Checks.store1(x, 1, 2);
        Checks.load1(x, 2);
        return x;
    }

    private static void sendingEmpties() {
        SignalBoard x = withEmptiedEnabled();
        Checks.same("not yet", Checks.load1(x, 2), 1);
        Checks.store1(x, 0, 1);
        Checks.same("sent", Checks.load1(x, 2), 2);
        Checks.store1(x, 4, LOOP);
        Checks.store1(x, 0, 1);
        Checks.same("looped", Checks.load1(x, 2), 2);
        Checks.store1(x, 0, 1);
        Checks.same("looped and lost", Checks.load1(x, 2), 2);
        Checks.store1(x, 3, 128);
        Checks.store1(x, 0, 1);
        Checks.same("written to the other 0", Checks.load1(x, 2), 1);
    }

    private static void enablingEmpties() {
        SignalBoard x = new SignalBoard(1);
        for (int v : new int[] {0, 13, 0xFD}) {
            Checks.store1(x, 1, v);
            Checks.store1(x, 1, 2);
            Checks.same("became 1 after " + v, Checks.load1(x, 2), 2);
        }
        for (int v : new int[] {2, 0xF2, 10, 2}) {
            Checks.store1(x, 1, v);
            Checks.same("was 1, " + v, Checks.load1(x, 2), 1);
        }
        Checks.store1(x, 1, 0);
        Checks.store1(x, 3, 128);
        Checks.store1(x, 1, 2);
        Checks.store1(x, 3, 0);
        Checks.same("register 1 is 0 on", Checks.load1(x, 1), 0);
        Checks.store1(x, 1, 0xFE);
        Checks.same("became 1 with others", Checks.load1(x, 2), 2);
    }

    private static void causeAndQueueBit() {
        for (int queue = 0; queue <= 1; queue++) {
            SignalBoard x = new SignalBoard(1);
            int added = 192 * queue;
            Checks.store1(x, 2, queue);
            Checks.same("1", Checks.load1(x, 2), 1 + added);
            Checks.store1(x, 1, 7);
            Checks.same("2", Checks.load1(x, 2), 2 + added);
            x.come(1);
            Checks.same("4", Checks.load1(x, 2), 4 + added);
            fed(x, 16);
            Checks.same("6", Checks.load1(x, 2), 6 + added);
        }
    }

    private static void cause6() {
        SignalBoard x = fed(2);
        Checks.same("not enabled", Checks.load1(x, 2), 1);
        Checks.store1(x, 1, 11);
        Checks.same("all others are enabled", Checks.load1(x, 2), 4);
        Checks.store1(x, 1, 4);
        Checks.same("enabled alone", Checks.load1(x, 2), 6);
        Checks.store1(x, 1, 15);
        Checks.same("before all others", Checks.load1(x, 2), 6);
        Checks.same("reading it changes nothing", Checks.load1(x, 2), 6);
        Checks.load1(x, 0);
        Checks.same("IN is empty", Checks.load1(x, 2), 6);
        Checks.load1(x, 5);
        Checks.same("no overrun any more", Checks.load1(x, 2), 2);
    }

    private static void cause4() {
        SignalBoard x = fed(1);
        Checks.store1(x, 1, 14);
        Checks.same("not enabled", Checks.load1(x, 2), 2);
        Checks.store1(x, 1, 1);
        Checks.same("enabled alone", Checks.load1(x, 2), 4);
        Checks.store1(x, 1, 7);
        Checks.same("before emptied", Checks.load1(x, 2), 4);
        Checks.same("reading it changes nothing", Checks.load1(x, 2), 4);
        Checks.load1(x, 0);
        Checks.same("IN is empty, it is emptied on", Checks.load1(x, 2), 2);
    }

    private static void cause2() {
        SignalBoard x = new SignalBoard(1);
        Checks.store1(x, 0, 1);
        Checks.store1(x, 1, 13);
        Checks.same("not enabled", Checks.load1(x, 2), 1);
        Checks.store1(x, 1, 2);
        Checks.same("enabled alone", Checks.load1(x, 2), 2);
        Checks.same("not emptied", Checks.load1(x, 2), 1);
    }

    private static void cause1() {
        SignalBoard x = new SignalBoard(1);
        Checks.store1(x, 1, 15);
        Checks.load1(x, 2);
        Checks.same("all enabled, nothing is", Checks.load1(x, 2), 1);
        Checks.store1(x, 1, 8);
        fed(x, 2);
        Checks.store1(x, 0, 1);
        Checks.same("none enabled, all is", Checks.load1(x, 2), 1);
    }

    private static void emptiedNoMore() {
        SignalBoard x = new SignalBoard(1);
        Checks.store1(x, 1, 3);
        x.come(1);
        Checks.same("4 is read", Checks.load1(x, 2), 4);
        Checks.store1(x, 1, 0);
        Checks.same("1 is read", Checks.load1(x, 2), 1);
        Checks.load1(x, 0);
        Checks.load1(x, 5);
        Checks.store1(x, 1, 2);
        Checks.same("2 is read", Checks.load1(x, 2), 2);
        Checks.same("2 is read no more", Checks.load1(x, 2), 1);

        SignalBoard y = withEmptiedEnabled();
        Checks.store1(y, 0, 1);
        y.read(Checks.SERIAL, 2, 4);
        Checks.load1(y, 5);
        y.come(1);
        Checks.same("2 was not read", Checks.load1(y, 2), 2);

        SignalBoard z = withEmptiedEnabled();
        Checks.store1(z, 0, 1);
        Checks.store1(z, 1, 7);
        fed(z, 2);
        Checks.same("6 is read", Checks.load1(z, 2), 6);
        Checks.load1(z, 5);
        Checks.same("4 is read", Checks.load1(z, 2), 4);
        Checks.load1(z, 0);
        Checks.same("2 is read after both", Checks.load1(z, 2), 2);
    }

    private static void queueBit() {
        SignalBoard x = new SignalBoard(1);
        for (int v : new int[] {0, 1, 2, 3, 254, 255, 256, 257, -1, -2}) {
            Checks.store1(x, 2, v);
            Checks.same("after " + v, Checks.load1(x, 2), (v & 1) == 1 ? 193 : 1);
            Checks.same("room after " + v, x.room(), (v & 1) == 1 ? 16 : 1);
        }
    }

    private static void anotherQueueBit() {
        SignalBoard x = fed(1);
        Checks.store1(x, 2, 0);
        Checks.same("0 was 0", x.room(), 0);
        Checks.store1(x, 2, 0xFC);
        Checks.same("0 was 0, other bits are 1", x.room(), 0);
        Checks.same("the byte is there", Checks.load1(x, 5), 97);
        Checks.store1(x, 2, 1);
        Checks.same("1 was 0", x.room(), 16);
        Checks.same("IN is empty", Checks.load1(x, 0), 0);
        fed(x, 16);
        Checks.store1(x, 2, 1);
        Checks.same("1 was 1", x.room(), 0);
        Checks.store1(x, 2, 0xFD);
        Checks.same("1 was 1, other bits are 1", x.room(), 0);
        Checks.store1(x, 2, 0);
        Checks.same("0 was 1", x.room(), 1);
        Checks.same("IN is empty again", Checks.load1(x, 0), 0);
    }

    private static void clearBit() {
        SignalBoard x = fed(1);
        Checks.store1(x, 2, 2);
        Checks.same("queue bit 0", x.room(), 1);
        Checks.same("IN is empty", Checks.load1(x, 5), 96);
        Checks.store1(x, 2, 1);
        fed(x, 16);
        Checks.load1(x, 0);
        Checks.store1(x, 2, 3);
        Checks.same("queue bit 1", x.room(), 16);
        Checks.same("nothing is left", Checks.load1(x, 0), 0);
        fed(x, 16);
        Checks.same("the first of the new ones", Checks.load1(x, 0), 1);
    }

    private static void overrunStays() {
        for (int v : new int[] {0, 1, 2, 3}) {
            SignalBoard x = fed(2);
            Checks.store1(x, 2, v);
            Checks.same("after " + v, Checks.load1(x, 5) & 2, 2);
        }
        SignalBoard x = fed(withQueue(), 17);
        Checks.store1(x, 2, 0);
        Checks.same("after the queue", Checks.load1(x, 5), 98);
    }

    private static void lineState() {
        Checks.same("empty", Checks.load1(fed(0), 5), 96);
        Checks.same("not empty", Checks.load1(fed(1), 5), 97);
        Checks.same("not empty, overrun", Checks.load1(fed(2), 5), 99);
        SignalBoard x = fed(2);
        Checks.load1(x, 0);
        Checks.same("empty, overrun", Checks.load1(x, 5), 98);
        Checks.same("not full, with the queue", Checks.load1(fed(withQueue(), 1), 5), 97);
    }

    private static void overrunEnds() {
        SignalBoard x = fed(3);
        Checks.same("overrun", Checks.load1(x, 5), 99);
        Checks.same("none any more", Checks.load1(x, 5), 97);
        x.come(1);
        Checks.same("another", Checks.load1(x, 5), 99);
        x.come(1);
        Checks.load1(x, 0);
        x.read(Checks.SERIAL, 5, 2);
        Checks.load1(x, 2);
        Checks.same("only reading register 5 ends it", Checks.load1(x, 5), 98);
    }

    private static void writingChangesNothing(int register) {
        for (int v : new int[] {0, 255}) {
            SignalBoard x = fed(2);
            Checks.store1(x, 1, 15);
            Checks.store1(x, 4, 15);
            Checks.store1(x, register, v);
            Checks.same("register 1", Checks.load1(x, 1), 15);
            Checks.same("register 2", Checks.load1(x, 2), 6);
            Checks.same("register 3", Checks.load1(x, 3), 0);
            Checks.same("register 4", Checks.load1(x, 4), 15);
            Checks.same("register 5", Checks.load1(x, 5), 99);
            Checks.same("register 6", Checks.load1(x, 6), 176);
            Checks.same("register 7", Checks.load1(x, 7), 0);
            Checks.same("register 0", Checks.load1(x, 0), 1);
            Checks.same("none is sent", x.sent(), 0);
        }
    }

    private static void modemWithoutLoop() {
        SignalBoard x = new SignalBoard(1);
        Checks.same("at first", Checks.load1(x, 6), 176);
        for (int v : new int[] {0, 1, 2, 4, 8, 15, 0xE0, 0xEF}) {
            Checks.store1(x, 4, v);
            Checks.same("register 4 is " + v, Checks.load1(x, 6), 176);
        }
    }

    private static void modemWithLoop() {
        SignalBoard x = new SignalBoard(1);
        int[] written = {16, 16 + 2, 16 + 1, 16 + 4, 16 + 8, 31, 255, 16 + 10, 16 + 5, 240};
        int[] due = {0, 16, 32, 64, 128, 240, 240, 144, 96, 0};
        for (int i = 0; i < written.length; i++) {
            Checks.store1(x, 4, written[i]);
            Checks.same("register 4 is " + written[i], Checks.load1(x, 6), due[i]);
        }
    }

    /** Source 10 is claimed and completed; whether it waits then tells whether its signal is still on. */
    private static boolean isOn(SignalBoard x) {
        Checks.load4(x, Checks.claim(0));
        Checks.store4(x, Checks.claim(0), 10);
        return Checks.load4(x, Checks.WAITING) == 1 << 10;
    }

    private static void source10() {
        SignalBoard x = new SignalBoard(1);
        Checks.store4(x, 40, 1);
        Checks.store4(x, Checks.enables(0), 1 << 10);
        Checks.same("cause 1 at first", isOn(x), false);
        x.come(1);
        Checks.same("a byte, not enabled", isOn(x), false);
        Checks.store1(x, 1, 1);
        Checks.same("cause 4 by enabling", isOn(x), true);
        Checks.load1(x, 0);
        Checks.same("cause 1 by taking the byte", isOn(x), false);
        x.come(1);
        Checks.same("cause 4 by a byte", isOn(x), true);
        Checks.store1(x, 2, 1);
        Checks.same("cause 1 by emptying IN", isOn(x), false);
        Checks.store1(x, 1, 4);
        fed(x, 16);
        Checks.same("IN is full", isOn(x), false);
        x.come(1);
        Checks.same("cause 6 by an overrun", isOn(x), true);
        Checks.load1(x, 5);
        Checks.same("cause 1 by reading register 5", isOn(x), false);
        Checks.store1(x, 1, 2);
        Checks.same("cause 2 by enabling", isOn(x), true);
        Checks.load1(x, 2);
        Checks.same("cause 1 by reading register 2", isOn(x), false);
        Checks.store1(x, 0, 1);
        Checks.same("cause 2 by sending", isOn(x), true);
        Checks.store1(x, 1, 0);
        Checks.same("cause 1 by enabling nothing", isOn(x), false);
        Checks.store1(x, 1, 4);
        Checks.store1(x, 4, LOOP);
        Checks.store1(x, 0, 1);
        Checks.same("cause 6 by the loop", isOn(x), true);
    }

    /** It takes more than the 512 calls that the document speaks of to see this; so far this class goes on alike. */
    private static void latest() {
        SignalBoard x = new SignalBoard(1);
        for (int i = 0; i < 4096; i++) {
            Checks.store1(x, 0, i / 16);
        }
        Checks.same("the first of 4,096", x.out(0), 0);
        Checks.same("the last of 4,096", x.out(4095), 255);
        Checks.store1(x, 0, 99);
        Checks.same("the first of 4,097", x.out(0), -1);
        Checks.same("the second of 4,097", x.out(1), 0);
        Checks.same("the last of 4,097", x.out(4096), 99);
        Checks.same("sent", x.sent(), 4097);
    }
}
