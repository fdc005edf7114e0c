import java.math.BigInteger;
import java.util.ArrayDeque;
import java.util.ArrayList;
import java.util.Deque;
import java.util.List;
import java.util.Random;

/** Long runs of chosen calls, against a second model that follows the document's words one by one. */
public final class ModelTest {
    private static final int RUNS = 3000;
    private static final int CALLS = 512;
    private static final long REFUSED = 0x7EFC5EDL;

    public static void main(String[] args) {
        for (int run = 0; run < RUNS; run++) {
            Random random = new Random(run);
            int count = random.nextInt(7) - 1;
            new Run(run, random, new SignalBoard(count), new Model(count)).go();
        }
        Checks.end();
    }

    private interface Call {
        long answer();
    }

    /** One object with its model, and the choice of what is called. */
    private static final class Run {
        private static final long[] ODD = {0, 1, 2, 3, 4, 7, 10, 31, 32, -1, Long.MIN_VALUE, Long.MAX_VALUE, 1L << 32};

        private final int number;
        private final Random random;
        private final SignalBoard x;
        private final Model m;

        Run(int number, Random random, SignalBoard x, Model m) {
            this.number = number;
            this.random = random;
            this.x = x;
            this.m = m;
        }

        void go() {
            for (int i = 0; i < CALLS; i++) {
                switch (random.nextInt(12)) {
                    case 0: case 1: case 2: load(); break;
                    case 3: case 4: case 5: case 6: store(); break;
                    case 7: signal(); break;
                    case 8: come(); break;
                    case 9: line(); break;
                    case 10: count(); break;
                    default: pass(); break;
                }
            }
        }

        private void load() {
            int w = window();
            long o = offset(w);
            int s = size(w);
            same("read(" + w + ", " + o + ", " + s + ")", () -> x.read(w, o, s), () -> m.load(w, o, s));
        }

        private void store() {
            int w = window();
            long o = offset(w);
            int s = size(w);
            long v = value();
            same("write(" + w + ", " + o + ", " + s + ", " + v + ")",
                () -> none(() -> x.write(w, o, s, v)), () -> none(() -> m.store(w, o, s, v)));
        }

        private void signal() {
            int s = random.nextInt(34) - 1;
            boolean on = random.nextBoolean();
            same("signal(" + s + ", " + on + ")",
                () -> none(() -> x.signal(s, on)), () -> none(() -> m.signal(s, on)));
        }

        private void come() {
            int b = random.nextInt();
            same("come(" + b + ")", () -> x.come(b) ? 1 : 0, () -> m.come(b) ? 1 : 0);
        }

        private void line() {
            int h = random.nextInt(6) - 1;
            int l = random.nextInt(5) > 0 ? new int[] {3, 7, 9, 11}[random.nextInt(4)] : random.nextInt();
            same("line(" + h + ", " + l + ")", () -> x.line(h, l) ? 1 : 0, () -> m.line(h, l) ? 1 : 0);
        }

        private void count() {
            switch (random.nextInt(4)) {
                case 0: same("processors()", x::processors, () -> m.h); break;
                case 1: same("room()", x::room, m::room); break;
                case 2: same("sent()", x::sent, () -> m.out.size()); break;
                default: out(random.nextInt(4) == 0 ? odd() : random.nextInt(40)); break;
            }
        }

        private void out(long k) {
            same("out(" + k + ")", () -> x.out(k), () -> k >= 0 && k < m.out.size() ? m.out.get((int) k) : -1);
        }

        private void pass() {
            long n = random.nextBoolean() ? random.nextInt(8) : odd();
            x.pass(n);
            m.time = m.time.add(Model.unsigned(n)).mod(Model.ROUND);
        }

        private long odd() {
            return ODD[random.nextInt(ODD.length)];
        }

        private int window() {
            return random.nextInt(60) == 0 ? random.nextInt(6) - 2 : random.nextInt(3);
        }

        private int size(int window) {
            if (random.nextInt(12) == 0) {
                return random.nextInt(10);
            }
            return window == 2 ? 1 : window == 1 ? 4 : random.nextBoolean() ? 4 : 8;
        }

        private long value() {
            switch (random.nextInt(4)) {
                case 0: return odd();
                case 1: return random.nextLong();
                default: return random.nextInt(40);
            }
        }

        private long offset(int window) {
            if (random.nextInt(30) == 0) {
                return random.nextBoolean() ? odd() : random.nextInt(3000000);
            }
            if (window == 2) {
                return random.nextInt(9);
            }
            int c = random.nextInt(9);
            if (window == 0) {
                return new long[] {4L * c, 16384 + 4L * c, 49144 + 4 * (c % 3)}[random.nextInt(3)];
            }
            return new long[] {4L * random.nextInt(33), 4096, 8192 + 128L * c, 2097152 + 4096L * c,
                2097156 + 4096L * c, 2097156}[random.nextInt(6)];
        }

        private void same(String what, Call call, Call due) {
            Checks.same("run " + number + ", " + what, answer(call), answer(due));
        }

        private static long answer(Call call) {
            try {
                return call.answer();
            } catch (IllegalArgumentException e) {
                return REFUSED;
            }
        }

        private static long none(Runnable call) {
            call.run();
            return 0;
        }
    }

    private static final class Source {
        boolean signal;
        boolean waits;
        boolean served;
        long priority;
    }

    private static final class Context {
        final boolean[] enables = new boolean[32];
        long threshold;
    }

    private static final class Model {
        static final BigInteger ROUND = BigInteger.ONE.shiftLeft(64);

        final int h;
        final List<Integer> out = new ArrayList<>();
        BigInteger time = BigInteger.ZERO;
        private final BigInteger[] compare = new BigInteger[4];
        private final boolean[] soft = new boolean[4];
        private final Source[] sources = new Source[32];
        private final Context[] contexts;
        private final Deque<Integer> in = new ArrayDeque<>();
        private final int[] register = new int[8];
        private final int[] other = new int[2];
        private boolean queueBit;
        private boolean overrun;
        private boolean emptied;

        Model(int count) {
            h = count == 2 || count == 3 || count == 4 ? count : 1;
            contexts = new Context[2 * h];
            for (int i = 0; i < 4; i++) {
                compare[i] = ROUND.subtract(BigInteger.ONE);
            }
            for (int i = 0; i < 32; i++) {
                sources[i] = new Source();
            }
            for (int i = 0; i < 2 * h; i++) {
                contexts[i] = new Context();
            }
        }

        static BigInteger unsigned(long v) {
            return new BigInteger(Long.toUnsignedString(v));
        }

        long load(int window, long offset, int size) {
            look(window, offset, size);
            if (window == 0) {
                return loadTimer(offset, size);
            }
            long got = window == 1 ? loadController(offset, size) : size == 1 ? loadSerial(offset) : 0;
            settle();
            return got;
        }

        void store(int window, long offset, int size, long v) {
            look(window, offset, size);
            if (window == 0) {
                storeTimer(offset, size, v);
            } else if (window == 1 && size == 4) {
                storeController(offset, v & 0xFFFFFFFFL);
            } else if (window == 2 && size == 1) {
                storeSerial(offset, (int) (v & 0xFF));
            }
            settle();
        }

        void signal(int source, boolean on) {
            if (source < 1 || source > 31 || source == 10) {
                throw new IllegalArgumentException();
            }
            sources[source].signal = on;
            settle();
        }

        boolean come(int b) {
            boolean fits = room() > 0;
            if (fits) {
                in.addLast(b & 0xFF);
            }
            overrun |= !fits;
            settle();
            return fits;
        }

        int room() {
            return (queueBit ? 16 : 1) - in.size();
        }

        boolean line(int processor, int line) {
            if (processor < 0 || processor >= h) {
                throw new IllegalArgumentException();
            }
            switch (line) {
                case 3: return soft[processor];
                case 7: return time.compareTo(compare[processor]) >= 0;
                case 9: return calls(contexts[2 * processor + 1]);
                case 11: return calls(contexts[2 * processor]);
                default: throw new IllegalArgumentException();
            }
        }

        private static void look(int window, long offset, int size) {
            if (window < 0 || window > 2 || offset < 0 || !List.of(1, 2, 4, 8).contains(size)) {
                throw new IllegalArgumentException();
            }
        }

        private void settle() {
            sources[10].signal = cause() != 1;
            for (Source s : sources) {
                s.waits |= s.signal && !s.served;
            }
        }

        private static boolean isSet(long v, int bit) {
            return (v >> bit) % 2 != 0;
        }

        private static BigInteger halves(BigInteger upper, BigInteger lower) {
            return upper.shiftLeft(32).add(lower);
        }

        private static BigInteger lower(BigInteger of) {
            return of.mod(BigInteger.ONE.shiftLeft(32));
        }

        private static long loadWide(BigInteger of, long at, long offset, int size) {
            if (size == 8 && offset == at) {
                return of.longValue();
            }
            if (size == 4 && offset == at) {
                return lower(of).longValue();
            }
            return size == 4 && offset == at + 4 ? of.shiftRight(32).longValue() : 0;
        }

        private static BigInteger stored(BigInteger of, long at, long offset, int size, long v) {
            if (size == 8 && offset == at) {
                return unsigned(v);
            }
            if (size == 4 && offset == at) {
                return halves(of.shiftRight(32), lower(unsigned(v)));
            }
            return size == 4 && offset == at + 4 ? halves(lower(unsigned(v)), lower(of)) : of;
        }

        private long loadTimer(long offset, int size) {
            long got = loadWide(time, 49144, offset, size);
            for (int i = 0; i < h; i++) {
                got += loadWide(compare[i], 16384 + 8L * i, offset, size);
                got += size == 4 && offset == 4L * i && soft[i] ? 1 : 0;
            }
            return got;
        }

        private void storeTimer(long offset, int size, long v) {
            time = stored(time, 49144, offset, size, v);
            for (int i = 0; i < h; i++) {
                compare[i] = stored(compare[i], 16384 + 8L * i, offset, size, v);
                if (size == 4 && offset == 4L * i) {
                    soft[i] = isSet(v, 0);
                }
            }
        }

        private long loadController(long offset, int size) {
            long got = 0;
            for (int s = 1; s <= 31 && size == 4; s++) {
                got += offset == 4L * s ? sources[s].priority : 0;
                got += offset == 4096 && sources[s].waits ? 1L << s : 0;
            }
            for (int c = 0; c < 2 * h && size == 4; c++) {
                for (int s = 1; s <= 31; s++) {
                    got += offset == 8192 + 128L * c && contexts[c].enables[s] ? 1L << s : 0;
                }
                got += offset == 2097152 + 4096L * c ? contexts[c].threshold : 0;
                got += offset == 2097156 + 4096L * c ? claim(contexts[c]) : 0;
            }
            return got;
        }

        private void storeController(long offset, long v) {
            for (int s = 1; s <= 31; s++) {
                if (offset == 4L * s) {
                    sources[s].priority = v % 8;
                }
            }
            for (int c = 0; c < 2 * h; c++) {
                for (int s = 1; s <= 31; s++) {
                    if (offset == 8192 + 128L * c) {
                        contexts[c].enables[s] = isSet(v, s);
                    }
                    if (offset == 2097156 + 4096L * c && v == s && contexts[c].enables[s]) {
                        sources[s].served = false;
                    }
                }
                if (offset == 2097152 + 4096L * c) {
                    contexts[c].threshold = v % 8;
                }
            }
        }

        private int claim(Context c) {
            for (int priority = 7; priority > 0; priority--) {
                for (int s = 1; s <= 31; s++) {
                    if (sources[s].waits && c.enables[s] && sources[s].priority == priority) {
                        sources[s].waits = false;
                        sources[s].served = true;
                        return s;
                    }
                }
            }
            return 0;
        }

        private boolean calls(Context c) {
            boolean on = false;
            for (int s = 1; s <= 31; s++) {
                on |= sources[s].waits && c.enables[s] && sources[s].priority > c.threshold;
            }
            return on;
        }

        private int cause() {
            if (isSet(register[1], 2) && overrun) {
                return 6;
            }
            if (isSet(register[1], 0) && !in.isEmpty()) {
                return 4;
            }
            return isSet(register[1], 1) && emptied ? 2 : 1;
        }

        private long loadSerial(long offset) {
            if (offset > 7) {
                return 0;
            }
            int r = (int) offset;
            if (r <= 1 && isSet(register[3], 7)) {
                return other[r];
            }
            int shown = cause();
            switch (r) {
                case 0:
                    return in.isEmpty() ? 0 : in.removeFirst();
                case 2:
                    emptied = emptied && shown != 2;
                    return shown + (queueBit ? 192 : 0);
                case 5:
                    int state = 96 + (in.isEmpty() ? 0 : 1) + (overrun ? 2 : 0);
                    overrun = false;
                    return state;
                case 6:
                    return modemState();
                default:
                    return register[r];
            }
        }

        private int modemState() {
            if (!isSet(register[4], 4)) {
                return 176;
            }
            return (isSet(register[4], 1) ? 16 : 0) + (isSet(register[4], 0) ? 32 : 0)
                + (isSet(register[4], 2) ? 64 : 0) + (isSet(register[4], 3) ? 128 : 0);
        }

        private void storeSerial(long offset, int b) {
            if (offset <= 1 && isSet(register[3], 7)) {
                other[(int) offset] = b;
            } else if (offset == 0) {
                if (isSet(register[4], 4)) {
                    come(b);
                } else {
                    out.add(b);
                }
                emptied = true;
            } else if (offset == 1) {
                emptied |= isSet(b, 1) && !isSet(register[1], 1);
                register[1] = b % 16;
            } else if (offset == 2) {
                if (isSet(b, 0) != queueBit || isSet(b, 1)) {
                    in.clear();
                }
                queueBit = isSet(b, 0);
            } else if (offset == 4) {
                register[4] = b % 32;
            } else if (offset == 3 || offset == 7) {
                register[(int) offset] = b;
            }
        }
    }
}
