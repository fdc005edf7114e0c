import java.util.Arrays;

/** The signals of a machine with several processors: timer, interrupt controller and serial line. */
public final class SignalBoard {
    private static final int MOST_PROCESSORS = 4;

    private static final int TIMER = 0;
    private static final int CONTROLLER = 1;
    private static final int SERIAL = 2;

    private static final int SOFT_LINE = 3;
    private static final int TIME_LINE = 7;
    private static final int SECOND_CONTEXT_LINE = 9;
    private static final int FIRST_CONTEXT_LINE = 11;

    private static final int SOURCES = 32;
    private static final int SERIAL_SOURCE = 10;

    private static final long LOW_HALF = 0xFFFFFFFFL;

    private final int count;
    private final Timer timer;
    private final Controller controller;
    private final SerialLine serial;

    public SignalBoard(int processors) {
        count = processors >= 1 && processors <= MOST_PROCESSORS ? processors : 1;
        timer = new Timer(count);
        controller = new Controller(2 * count);
        serial = new SerialLine();
    }

    public int processors() {
        return count;
    }

    public long read(int window, long offset, int size) throws IllegalArgumentException {
        if (!canAccess(window, offset, size)) {
            throw new IllegalArgumentException("no such window, offset or size");
        }
        if (window == TIMER) {
            return timer.load(offset, size);
        }
        if (window == CONTROLLER) {
            return controller.load(offset, size);
        }
        int got = serial.load(offset, size);
        wireSerial();
        return got;
    }

    public void write(int window, long offset, int size, long v) throws IllegalArgumentException {
        if (!canAccess(window, offset, size)) {
            throw new IllegalArgumentException("no such window, offset or size");
        }
        if (window == TIMER) {
            timer.store(offset, size, v);
        } else if (window == CONTROLLER) {
            controller.store(offset, size, (int) v);
        } else {
            serial.store(offset, size, (int) (v & 255));
            wireSerial();
        }
    }

    public void signal(int source, boolean on) throws IllegalArgumentException {
        if (source < 1 || source >= SOURCES || source == SERIAL_SOURCE) {
            throw new IllegalArgumentException("no such source, or the serial line's own");
        }
        controller.drive(source, on);
    }

    public boolean come(int b) {
        boolean taken = serial.receive(b & 255);
        wireSerial();
        return taken;
    }

    public int room() {
        return serial.in.space();
    }

    public void pass(long n) {
        timer.advance(n);
    }

    public boolean line(int processor, int line) throws IllegalArgumentException {
        if (processor < 0 || processor >= count) {
            throw new IllegalArgumentException("no such processor");
        }
        switch (line) {
            case SOFT_LINE:
                return timer.isSoft(processor);
            case TIME_LINE:
                return timer.isDue(processor);
            case FIRST_CONTEXT_LINE:
                return controller.calls(2 * processor);
            case SECOND_CONTEXT_LINE:
                return controller.calls(2 * processor + 1);
            default:
                throw new IllegalArgumentException("no such line");
        }
    }

    public long sent() {
        return serial.out.total;
    }

    public int out(long k) {
        return serial.out.at(k);
    }

    private static boolean canAccess(int window, long offset, int size) {
        boolean sized = size == 1 || size == 2 || size == 4 || size == 8;
        return sized && offset >= 0 && window >= TIMER && window <= SERIAL;
    }

    /** Any access to the serial line may change its cause, so its source follows after each of them. */
    private void wireSerial() {
        controller.drive(SERIAL_SOURCE, serial.cause() != SerialLine.NO_CAUSE);
    }

    /** Which of so many registers, each 2^shift bytes behind the one before, starts at an offset; -1 for none. */
    private static int slotAt(long offset, long first, int shift, int slots) {
        long away = offset - first;
        long slot = away >> shift;
        if (away < 0 || slot >= slots || slot << shift != away) {
            return -1;
        }
        return (int) slot;
    }

    private static final class Timer {
        private static final long COMPARE_AT = 16384;
        private static final long TIME_AT = 49144;

        private final int[] soft;
        /** COMPARE of each processor and, last, TIME: all of them are read and written alike. */
        private final long[] wide;
        private final int timeSlot;

        Timer(int processors) {
            soft = new int[processors];
            wide = new long[processors + 1];
            timeSlot = processors;
            Arrays.fill(wide, -1L);
            wide[timeSlot] = 0;
        }

        long load(long offset, int size) {
            int h = softAt(offset, size);
            if (h >= 0) {
                return soft[h];
            }
            int slot = wideAt(offset, size);
            if (slot < 0) {
                return 0;
            }
            if (size == 8) {
                return wide[slot];
            }
            return isUpperHalf(offset) ? wide[slot] >>> 32 : wide[slot] & LOW_HALF;
        }

        void store(long offset, int size, long v) {
            int h = softAt(offset, size);
            if (h >= 0) {
                soft[h] = (int) (v & 1);
                return;
            }
            int slot = wideAt(offset, size);
            if (slot < 0) {
                return;
            }
            if (size == 8) {
                wide[slot] = v;
            } else if (isUpperHalf(offset)) {
                wide[slot] = v << 32 | wide[slot] & LOW_HALF;
            } else {
                wide[slot] = wide[slot] & ~LOW_HALF | v & LOW_HALF;
            }
        }

        void advance(long n) {
            wide[timeSlot] += n;
        }

        boolean isSoft(int h) {
            return h >= 0 && h < soft.length && soft[h] != 0;
        }

        boolean isDue(int h) {
            return h >= 0 && h < timeSlot && Long.compareUnsigned(wide[timeSlot], wide[h]) >= 0;
        }

        private int softAt(long offset, int size) {
            return size == 4 ? slotAt(offset, 0, 2, soft.length) : -1;
        }

        private int wideAt(long offset, int size) {
            boolean whole = size == 8 && (offset & 7) == 0;
            boolean half = size == 4 && (offset & 3) == 0;
            if (!whole && !half) {
                return -1;
            }
            long start = offset & ~7L;
            if (start == TIME_AT) {
                return timeSlot;
            }
            return slotAt(start, COMPARE_AT, 3, timeSlot);
        }

        /** Every register of 8 bytes starts at a multiple of 8, so bit 2 of the offset tells its halves apart. */
        private static boolean isUpperHalf(long offset) {
            return (offset & 4) != 0;
        }
    }

    private static final class Controller {
        private static final long WAITING_AT = 4096;
        private static final long ENABLES_AT = 8192;
        private static final long THRESHOLD_AT = 2097152;
        private static final long CLAIM_AT = 2097156;
        private static final int ENABLES_SHIFT = 7;
        private static final int CONTEXT_SHIFT = 12;
        private static final int LEVELS = 7;

        // One bit for each source, as the registers show them; bit 0 stays 0.
        private int signals;
        private int waiting;
        private int served;

        /** There is no source 0: its priority stays 0, so that it loses against every other one. */
        private final int[] priority = new int[SOURCES];
        private final int[] enables;
        private final int[] threshold;
        private final int contexts;

        Controller(int contexts) {
            this.contexts = contexts;
            enables = new int[contexts];
            threshold = new int[contexts];
        }

        long load(long offset, int size) {
            if (size != 4) {
                return 0;
            }
            if (offset == WAITING_AT) {
                return waiting & LOW_HALF;
            }
            int s = slotAt(offset, 0, 2, SOURCES);
            if (s >= 0) {
                return priority[s];
            }
            int c = slotAt(offset, ENABLES_AT, ENABLES_SHIFT, contexts);
            if (c >= 0) {
                return enables[c] & LOW_HALF;
            }
            c = slotAt(offset, THRESHOLD_AT, CONTEXT_SHIFT, contexts);
            if (c >= 0) {
                return threshold[c];
            }
            c = slotAt(offset, CLAIM_AT, CONTEXT_SHIFT, contexts);
            return c >= 0 ? claim(c) : 0;
        }

        void store(long offset, int size, int v) {
            if (size != 4) {
                return;
            }
            int s = slotAt(offset, 0, 2, SOURCES);
            if (s > 0) {
                priority[s] = v & LEVELS;
            }
            int c = slotAt(offset, ENABLES_AT, ENABLES_SHIFT, contexts);
            if (c >= 0) {
                enables[c] = v & ~1;
            }
            c = slotAt(offset, THRESHOLD_AT, CONTEXT_SHIFT, contexts);
            if (c >= 0) {
                threshold[c] = v & LEVELS;
            }
            c = slotAt(offset, CLAIM_AT, CONTEXT_SHIFT, contexts);
            if (c >= 0) {
                complete(c, v);
            }
        }

        void drive(int source, boolean on) {
            int bit = 1 << source;
            signals = on ? signals | bit : signals & ~bit;
            letWait();
        }

        /** Whether some source is urgent enough to put the context's line on. */
        boolean calls(int c) {
            return c >= 0 && c < contexts && priority[mostUrgent(c)] > threshold[c];
        }

        private int claim(int c) {
            int s = mostUrgent(c);
            if (s > 0) {
                waiting &= ~(1 << s);
                served |= 1 << s;
            }
            return s;
        }

        private void complete(int c, int s) {
            // A shift takes only the lowest 5 bits of s, so others than sources must not get that far.
            if (s > 0 && s < SOURCES) {
                served &= ~(enables[c] & 1 << s);
                letWait();
            }
        }

        private void letWait() {
            waiting |= signals & ~served;
        }

        /** Of the sources that wait and that c enables, the first with the greatest priority; 0 if all have none. */
        private int mostUrgent(int c) {
            int open = waiting & enables[c];
            int best = 0;
            for (int s = 1; s < SOURCES; s++) {
                if ((open & 1 << s) != 0 && priority[s] > priority[best]) {
                    best = s;
                }
            }
            return best;
        }
    }

    private static final class SerialLine {
        private static final int NO_CAUSE = 1;
        private static final int EMPTIED_CAUSE = 2;
        private static final int BYTE_CAUSE = 4;
        private static final int OVERRUN_CAUSE = 6;

        private static final int DATA = 0;
        private static final int ENABLES = 1;
        private static final int QUEUE = 2;
        private static final int FORMAT = 3;
        private static final int MODEM = 4;
        private static final int LINE_STATE = 5;
        private static final int MODEM_STATE = 6;
        private static final int SCRATCH = 7;

        private static final int BYTE_ENABLED = 1;
        private static final int EMPTIED_ENABLED = 2;
        private static final int OVERRUN_ENABLED = 4;
        private static final int OTHERS_SHOWN = 128;
        private static final int LOOP = 16;

        private final InQueue in = new InQueue();
        private final OutLog out = new OutLog();

        private int enables;
        private int format;
        private int modem;
        private int scratch;
        /** The two that stand at 0 and 1 while bit 7 of the format is 1. */
        private int other0;
        private int other1;
        private boolean overrun;
        private boolean emptied;

        int load(long offset, int size) {
            if (size != 1 || offset > SCRATCH) {
                return 0;
            }
            switch ((int) offset) {
                case DATA:
                    return showsOthers() ? other0 : in.take();
                case ENABLES:
                    return showsOthers() ? other1 : enables;
                case QUEUE:
                    return loadCause();
                case FORMAT:
                    return format;
                case MODEM:
                    return modem;
                case LINE_STATE:
                    return loadLineState();
                case MODEM_STATE:
                    return modemState();
                case SCRATCH:
                    return scratch;
                default:
                    return 0;
            }
        }

        void store(long offset, int size, int b) {
            if (size != 1 || offset > SCRATCH) {
                return;
            }
            switch ((int) offset) {
                case DATA:
                    storeData(b);
                    break;
                case ENABLES:
                    storeEnables(b);
                    break;
                case QUEUE:
                    in.configure((b & 1) != 0, (b & 2) != 0);
                    break;
                case FORMAT:
                    format = b;
                    break;
                case MODEM:
                    modem = b & 31;
                    break;
                case SCRATCH:
                    scratch = b;
                    break;
                default:
                    break;
            }
        }

        boolean receive(int b) {
            boolean taken = in.put(b);
            if (!taken) {
                overrun = true;
            }
            return taken;
        }

        int cause() {
            if (overrun && (enables & OVERRUN_ENABLED) != 0) {
                return OVERRUN_CAUSE;
            }
            if (in.held > 0 && (enables & BYTE_ENABLED) != 0) {
                return BYTE_CAUSE;
            }
            if (emptied && (enables & EMPTIED_ENABLED) != 0) {
                return EMPTIED_CAUSE;
            }
            return NO_CAUSE;
        }

        private boolean showsOthers() {
            return (format & OTHERS_SHOWN) != 0;
        }

        private int loadCause() {
            int cause = cause();
            if (cause == EMPTIED_CAUSE) {
                emptied = false;
            }
            return in.queueing ? cause | 192 : cause;
        }

        private int loadLineState() {
            int state = 96 | (in.held > 0 ? 1 : 0) | (overrun ? 2 : 0);
            overrun = false;
            return state;
        }

        private int modemState() {
            if ((modem & LOOP) == 0) {
                return 176;
            }
            // Bits 1 and 0 change places, bits 2 and 3 keep theirs, all of them 4 higher up.
            return (modem & 2) << 3 | (modem & 1) << 5 | (modem & 12) << 4;
        }

        private void storeData(int b) {
            if (showsOthers()) {
                other0 = b;
                return;
            }
            if ((modem & LOOP) != 0) {
                receive(b);
            } else {
                out.add(b);
            }
            emptied = true;
        }

        private void storeEnables(int b) {
            if (showsOthers()) {
                other1 = b;
                return;
            }
            if ((b & ~enables & EMPTIED_ENABLED) != 0) {
                emptied = true;
            }
            enables = b & 15;
        }
    }

    /** The bytes that came and were not read, in a ring. */
    private static final class InQueue {
        private static final int MOST = 16;

        private final int[] ring = new int[MOST];
        private int first;
        private int held;
        private boolean queueing;

        int space() {
            return (queueing ? MOST : 1) - held;
        }

        boolean put(int b) {
            if (space() <= 0) {
                return false;
            }
            ring[(first + held) & (MOST - 1)] = b;
            held++;
            return true;
        }

        int take() {
            if (held == 0) {
                return 0;
            }
            int b = ring[first];
            first = (first + 1) & (MOST - 1);
            held--;
            return b;
        }

        void configure(boolean queue, boolean clear) {
            if (clear || queue != queueing) {
                held = 0;
            }
            queueing = queue;
        }
    }

    /** The latest bytes that were sent, in a ring. */
    private static final class OutLog {
        private static final int MOST = 4096;

        private final byte[] ring = new byte[MOST];
        private long total;

        void add(int b) {
            ring[(int) (total & (MOST - 1))] = (byte) b;
            total++;
        }

        int at(long k) {
            if (k < 0 || k >= total || total - k > MOST) {
                return -1;
            }
            return ring[(int) (k & (MOST - 1))] & 255;
        }
    }
}
