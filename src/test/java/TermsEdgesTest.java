import java.util.ArrayList;
import java.util.List;

/** The edges that the document's Terms name for all three windows, sentence by sentence. */
public final class TermsEdgesTest {
    private static final int[] SIZES = {1, 2, 4, 8};

    public static void main(String[] args) {
        Checks.sentence("An object is used for at most 512 calls after it has been made", TermsEdgesTest::lastCall);
        Checks.sentence("PROCESSORS are 0 .. H - 1.", TermsEdgesTest::processors);
        Checks.sentence("WINDOWS are 0 TIMER, 1 CONTROLLER, 2 SERIAL.", TermsEdgesTest::windows);
        Checks.sentence("Something of one to eight bytes (1, 2, 4, 8) is read or written at an offset", TermsEdgesTest::sizes);
        Checks.sentence("what isn't told here reads 0,", TermsEdgesTest::untoldReads);
        Checks.sentence("and writing it changes nothing.", TermsEdgesTest::untoldWrites);
        Checks.sentence("Numbers are without sign.", TermsEdgesTest::withoutSign);
        Checks.end();
    }

    private static void lastCall() {
        Checks.same("call 512, sent", after511Sends().sent(), 511);
        Checks.same("call 512, the first byte", after511Sends().out(0), 0);
        Checks.same("call 512, the last byte", after511Sends().out(510), 510 & 255);
        Checks.same("call 512, beyond the last byte", after511Sends().out(511), -1);

        SignalBoard x = new SignalBoard(1);
        for (int i = 0; i < 511; i++) {
            x.pass(1);
        }
        Checks.same("call 512, TIME", x.read(Checks.TIMER, Checks.TIME, 8), 511);

        SignalBoard y = new SignalBoard(1);
        for (int i = 0; i < 511; i++) {
            y.come(i);
        }
        Checks.same("call 512, the byte that had room", Checks.load1(y, 0), 0);
    }

    private static SignalBoard after511Sends() {
        SignalBoard x = new SignalBoard(1);
        for (int i = 0; i < 511; i++) {
            Checks.store1(x, 0, i);
        }
        return x;
    }

    private static void processors() {
        for (int h = 1; h <= 4; h++) {
            SignalBoard x = new SignalBoard(h);
            int first = 0;
            int last = h - 1;
            int beyond = h;
            x.write(Checks.TIMER, 4L * first, 4, 1);
            x.write(Checks.TIMER, 4L * last, 4, 1);
            x.write(Checks.TIMER, 4L * beyond, 4, 1);
            x.write(Checks.TIMER, Checks.COMPARE + 8L * last, 8, 0);
            x.write(Checks.TIMER, Checks.COMPARE + 8L * beyond, 8, 5);
            Checks.same("line 3 of the first of " + h, x.line(first, 3), true);
            Checks.same("line 3 of the last of " + h, x.line(last, 3), true);
            Checks.same("line 7 of the last of " + h, x.line(last, 7), true);
            Checks.same("SOFT beyond " + h, x.read(Checks.TIMER, 4L * beyond, 4), 0);
            Checks.same("COMPARE beyond " + h, x.read(Checks.TIMER, Checks.COMPARE + 8L * beyond, 8), 0);
            Checks.refused("line of -1", () -> x.line(-1, 3));
            Checks.refused("line of " + h + " of " + h, () -> x.line(beyond, 3));
        }
    }

    /** Offset 4 is SOFT 1, the priority of source 1 and register 4; each window has its own. */
    private static void windows() {
        SignalBoard x = new SignalBoard(2);
        x.write(0, 4, 4, 1);
        x.write(1, 4, 4, 6);
        x.write(2, 4, 1, 31);
        Checks.same("window 0", x.read(0, 4, 4), 1);
        Checks.same("window 1", x.read(1, 4, 4), 6);
        Checks.same("window 2", x.read(2, 4, 1), 31);
        for (int none : new int[] {-1, 3, Integer.MIN_VALUE, Integer.MAX_VALUE}) {
            Checks.refused("read window " + none, () -> x.read(none, 4, 4));
            Checks.refused("write window " + none, () -> x.write(none, 4, 4, 0));
        }
    }

    private static void sizes() {
        for (int window = 0; window < 3; window++) {
            int w = window;
            SignalBoard x = new SignalBoard(1);
            for (int size : SIZES) {
                x.write(w, 3000000, size, -1);
                Checks.same("window " + w + ", size " + size, x.read(w, 3000000, size), 0);
            }
            for (int none : new int[] {0, 3, 5, 6, 7, 9, 16, -1, -2, -4, -8, Integer.MIN_VALUE, Integer.MAX_VALUE}) {
                Checks.refused("read, window " + w + ", size " + none, () -> x.read(w, 3000000, none));
                Checks.refused("write, window " + w + ", size " + none, () -> x.write(w, 3000000, none, 1));
            }
        }
    }

    private static void untoldReads() {
        String untouched = stateOf(used());
        for (long[] place : untoldPlaces()) {
            SignalBoard x = used();
            Checks.same("read " + named(place), x.read((int) place[0], place[1], (int) place[2]), 0);
            Checks.same("state after read " + named(place), stateOf(x).equals(untouched), true);
        }
    }

    private static void untoldWrites() {
        String untouched = stateOf(used());
        for (long[] place : untoldPlaces()) {
            for (long v : new long[] {-1, 0, 1, 3}) {
                SignalBoard x = used();
                x.write((int) place[0], place[1], (int) place[2], v);
                Checks.same("state after write " + named(place) + " of " + v, stateOf(x).equals(untouched), true);
            }
        }
    }

    private static String named(long[] place) {
        return "window " + place[0] + ", offset " + place[1] + ", size " + place[2];
    }

    /** Windows, offsets and sizes about the edges of all that is told, where an object of 4 processors has nothing. */
    private static List<long[]> untoldPlaces() {
        long[][] about = {
            {0, 0, 24}, {0, 16380, 16424}, {0, 49136, 49160}, {0, Long.MAX_VALUE - 8, Long.MAX_VALUE},
            {1, 0, 12}, {1, 116, 136}, {1, 4090, 4104}, {1, 8188, 8200}, {1, 9084, 9096}, {1, 9212, 9224},
            {1, 2097148, 2097164}, {1, 2125820, 2125836}, {1, 2129918, 2129930}, {1, Long.MAX_VALUE - 8, Long.MAX_VALUE},
            {2, 0, 18}, {2, 256, 264}, {2, 1L << 32, (1L << 32) + 8}, {2, Long.MAX_VALUE - 8, Long.MAX_VALUE},
        };
        List<long[]> places = new ArrayList<>();
        for (long[] part : about) {
            for (long offset = part[1]; offset < part[2]; offset++) {
                for (int size : SIZES) {
                    if (!isTold((int) part[0], offset, size)) {
                        places.add(new long[] {part[0], offset, size});
                    }
                }
            }
        }
        return places;
    }

    private static boolean isTold(int window, long offset, int size) {
        switch (window) {
            case Checks.TIMER:
                boolean soft = size == 4 && offset < 16;
                boolean wide = size >= 4 && (offset >= 16384 && offset < 16416 || offset >= 49144 && offset < 49152);
                return (soft || wide) && offset % size == 0;
            case Checks.CONTROLLER:
                return size == 4 && isToldOfController(offset);
            default:
                return size == 1 && offset < 8;
        }
    }

    private static boolean isToldOfController(long offset) {
        boolean told = offset == Checks.WAITING || offset > 0 && offset < 128 && offset % 4 == 0;
        for (int c = 0; c < 8; c++) {
            told |= offset == Checks.enables(c) || offset == Checks.threshold(c) || offset == Checks.claim(c);
        }
        return told;
    }

    /** An object in which everything holds something that a wrong access would change. */
    private static SignalBoard used() {
        SignalBoard x = new SignalBoard(4);
        x.pass(0x1234567823456789L);
        for (int h = 0; h < 4; h++) {
            x.write(Checks.TIMER, 4L * h, 4, h % 2);
            x.write(Checks.TIMER, Checks.COMPARE + 8L * h, 8, 0x2345678934567890L * (h + 1));
        }
        for (int s : new int[] {1, 2, 30, 31}) {
            Checks.store4(x, 4L * s, 5);
            x.signal(s, true);
        }
        for (int c = 0; c < 8; c++) {
            Checks.store4(x, Checks.enables(c), 0xC0000006L);
            Checks.store4(x, Checks.threshold(c), c);
        }
        Checks.load4(x, Checks.claim(0));
        for (int r : new int[] {0, 1, 2, 7}) {
            Checks.store1(x, r, 0x57);
        }
        for (int i = 0; i < 17; i++) {
            x.come(65 + i);
        }
        return x;
    }

    /** All that can be asked of an object; what asking changes comes last. */
    private static String stateOf(SignalBoard x) {
        StringBuilder state = new StringBuilder();
        add(state, x.read(Checks.TIMER, Checks.TIME, 8));
        for (int h = 0; h < 4; h++) {
            add(state, x.read(Checks.TIMER, 4L * h, 4));
            add(state, x.read(Checks.TIMER, Checks.COMPARE + 8L * h, 8));
        }
        for (int s = 1; s < 32; s++) {
            add(state, Checks.load4(x, 4L * s));
        }
        add(state, Checks.load4(x, Checks.WAITING));
        for (int c = 0; c < 8; c++) {
            add(state, Checks.load4(x, Checks.enables(c)));
            add(state, Checks.load4(x, Checks.threshold(c)));
        }
        add(state, x.room());
        add(state, x.sent());
        add(state, x.out(0));
        for (int r = 7; r >= 0; r--) {
            add(state, Checks.load1(x, r));
        }
        for (int claims = 0; claims < 4; claims++) {
            add(state, Checks.load4(x, Checks.claim(7)));
        }
        return state.toString();
    }

    private static void add(StringBuilder state, long v) {
        state.append(v).append(' ');
    }

    private static void withoutSign() {
        SignalBoard x = new SignalBoard(1);
        Checks.same("upper half of COMPARE", x.read(Checks.TIMER, Checks.COMPARE + 4, 4), 0xFFFFFFFFL);
        Checks.same("lower half of COMPARE", x.read(Checks.TIMER, Checks.COMPARE, 4), 0xFFFFFFFFL);
        Checks.store4(x, Checks.enables(0), 0x80000000L);
        Checks.same("enables of source 31", Checks.load4(x, Checks.enables(0)), 0x80000000L);
        x.signal(31, true);
        Checks.same("source 31 waits", Checks.load4(x, Checks.WAITING), 0x80000000L);
        Checks.store1(x, 7, 128);
        Checks.same("register 7", Checks.load1(x, 7), 128);
        x.come(255);
        Checks.same("first byte of IN", Checks.load1(x, 0), 255);
        Checks.store1(x, 0, 128);
        Checks.same("out", x.out(0), 128);
        x.write(Checks.TIMER, Checks.COMPARE, 8, Long.MIN_VALUE);
        x.write(Checks.TIMER, Checks.TIME, 8, Long.MAX_VALUE);
        Checks.same("TIME just below COMPARE", x.line(0, 7), false);
        x.pass(1);
        Checks.same("TIME at COMPARE", x.line(0, 7), true);
    }
}
