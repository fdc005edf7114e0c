/** What all tests share: they count wrong answers and end with exit code 1 if there was one. */
final class Checks {
    static final int TIMER = 0;
    static final int CONTROLLER = 1;
    static final int SERIAL = 2;

    static final long COMPARE = 16384;
    static final long TIME = 49144;

    static final long WAITING = 4096;

    /** One fault can spoil a great many answers; the first ones tell enough. */
    private static final int MOST_SHOWN = 100;

    private static int asked = 0;
    private static int wrong = 0;
    /** Stands before each wrong answer, so that it tells which sentence of the document is broken. */
    private static String where = "";

    private Checks() {
    }

    /** One sentence of the document, given by its words, with a test of its own. */
    static void sentence(String words, Runnable test) {
        int before = asked;
        where = "\"" + words + "\" ";
        try {
            test.run();
        } catch (RuntimeException e) {
            tell("ended with " + e);
        }
        if (asked == before) {
            tell("asked nothing");
        }
        where = "";
    }

    static void same(String what, long got, long due) {
        asked++;
        if (got != due) {
            tell(what + ": answered " + got + ", due is " + due);
        }
    }

    static void same(String what, boolean got, boolean due) {
        same(what, got ? 1 : 0, due ? 1 : 0);
    }

    /** The call must throw an IllegalArgumentException itself, not a class below it. */
    static void refused(String what, Runnable call) {
        asked++;
        String got = "nothing";
        try {
            call.run();
        } catch (RuntimeException e) {
            got = e.getClass().getSimpleName();
        }
        if (!got.equals("IllegalArgumentException")) {
            tell(what + ": threw " + got + ", due is IllegalArgumentException");
        }
    }

    private static void tell(String text) {
        wrong++;
        if (wrong <= MOST_SHOWN) {
            System.out.println(where + text);
        }
    }

    static void end() {
        System.out.println(asked + " answers, " + wrong + " not as due");
        if (wrong != 0 || asked == 0) {
            System.exit(1);
        }
    }

    static long enables(int context) {
        return 8192 + 128L * context;
    }

    static long threshold(int context) {
        return 2097152 + 4096L * context;
    }

    static long claim(int context) {
        return 2097156 + 4096L * context;
    }

    static long load4(SignalBoard x, long offset) {
        return x.read(CONTROLLER, offset, 4);
    }

    static void store4(SignalBoard x, long offset, long v) {
        x.write(CONTROLLER, offset, 4, v);
    }

    static long load1(SignalBoard x, long register) {
        return x.read(SERIAL, register, 1);
    }

    static void store1(SignalBoard x, long register, long v) {
        x.write(SERIAL, register, 1, v);
    }
}
