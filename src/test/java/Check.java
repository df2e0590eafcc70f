/** What the tests share: they look at answers, count those that are not due, and write lines and rows. */
public abstract class Check {
    protected static final int VOID = -10000;
    protected static final int NONE = -1;
    protected static final int MAX = Integer.MAX_VALUE;
    protected static final int MIN = Integer.MIN_VALUE;
    protected static final int LAST_HOUR = 35063;
    protected static final int LAST_DAY = 1460;

    private static String subject = "";
    private static int wrong;
    private static int looked;

    protected interface Call {
        Object run();
    }

    /** What the answers that come now are about: a promise, or a sentence of the document. */
    protected static void about(String what) {
        subject = what;
    }

    protected static void finish() {
        System.out.println(looked + " answers looked at, " + wrong + " not as due");
        if (wrong != 0) {
            System.exit(1);
        }
    }

    protected static void is(Object due, Object got) {
        looked++;
        if (!due.equals(got)) {
            wrong++;
            System.out.println(subject + ", line " + lineOfTest() + ": answered " + got + ", due is " + due);
        }
    }

    private static int lineOfTest() {
        for (StackTraceElement frame : new Throwable().getStackTrace()) {
            if (!frame.getClassName().equals("Check")) {
                return frame.getLineNumber();
            }
        }
        return 0;
    }

    private static void throwing(Class<?> due, Call call) {
        is(due, thrownBy(call));
    }

    /** The class of what the call throws, or its answer. What the machine throws has a class of its own, so it is never due. */
    protected static Object thrownBy(Call call) {
        try {
            return call.run();
        } catch (RuntimeException e) {
            StackTraceElement[] frames = e.getStackTrace();
            boolean isOwn = frames.length > 0 && frames[0].getClassName().startsWith("Rainledger");
            return isOwn ? e.getClass() : "the library: " + e;
        }
    }

    protected static void noIndex(Call call) {
        throwing(IndexOutOfBoundsException.class, call);
    }

    protected static void noArgument(Call call) {
        throwing(IllegalArgumentException.class, call);
    }

    protected static void noState(Call call) {
        throwing(IllegalStateException.class, call);
    }

    /** Readings from an hour on; VOID leaves one out. */
    protected static void put(Rainledger x, int station, int hour, int... values) {
        for (int i = 0; i < values.length; i++) {
            if (values[i] != VOID) {
                x.reading(station, hour + i, values[i]);
            }
        }
    }

    /** Types a text in the place of what is typed. */
    protected static void type(Rainledger x, String text) {
        x.say(14, -1, -1, -1, -1, -1);
        int[] signs = new int[6];
        for (int at = 0; at < text.length(); at += 6) {
            for (int i = 0; i < 6; i++) {
                signs[i] = at + i < text.length() ? "0123456789-. ".indexOf(text.charAt(at + i)) : NONE;
            }
            x.say(signs[0], signs[1], signs[2], signs[3], signs[4], signs[5]);
        }
    }

    protected static int faultOf(String text) {
        Rainledger x = new Rainledger();
        type(x, text);
        is(text, x.typed());
        return x.fault();
    }
}
