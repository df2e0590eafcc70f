import java.lang.reflect.InvocationTargetException;
import java.lang.reflect.Method;
import java.util.ArrayList;
import java.util.HashMap;
import java.util.List;
import java.util.Map;
import java.util.Random;
import java.util.concurrent.ConcurrentHashMap;
import java.util.stream.LongStream;

/** Long runs of calls by chance (with fixed seeds), each answer compared with that of PlainArchive. */
public final class RandomRunsTest {
    private static final int[] WILD = {Integer.MIN_VALUE, Integer.MIN_VALUE + 1, -100000, -10001, -10000, -9999, -1000,
        -501, -100, -2, -1, 0, 1, 3, 4, 5, 6, 7, 8, 11, 12, 13, 14, 15, 16, 23, 24, 25, 47, 48, 49, 99, 100, 101, 999,
        1000, 1460, 1461, 2047, 2048, 9999, 10000, 35063, 35064, 35065, 99999, 100000, 140256, 1 << 20, 1 << 30,
        Integer.MAX_VALUE - 1, Integer.MAX_VALUE};
    private static final String[] ACTS = {"reading", "reading", "row", "row", "row", "row", "right", "right",
        "withdraw", "bar", "free", "undo", "lend", "lend", "lend", "join", "say", "say", "LINE", "LINE", "enter"};
    private static final String[] TOLD = {"unit", "enough", "leap", "look"};
    private static final String[] ASKED = {"value", "was", "was", "reason", "line", "typed", "fault", "quarrels",
        "ofSpan", "ofSpan", "mean", "rank", "ranked", "slide", "top", "kept", "climate", "records", "runs", "frost",
        "degrees", "month", "beside", "breaks", "breakCost", "fill", "fill", "combination", "slip", "rose", "pairs",
        "house"};

    private static final Map<String, Method> METHODS = new HashMap<>();
    private static final Map<String, Method> PLAIN_METHODS = new HashMap<>();
    private static final Map<String, Integer> ANSWERS = new ConcurrentHashMap<>();

    private final Random random;
    private final Rainledger house = new Rainledger();
    private final PlainArchive plain = new PlainArchive();
    private final List<String> calls = new ArrayList<>();
    private final int home;
    private final int wide;
    private final int largest;
    private final int wildness;
    private final boolean isFull;
    private int made;

    private RandomRunsTest(long seed) {
        random = new Random(seed);
        int[] homes = {0, 0, 24 * 57, 24 * 365, 24 * 1088, 35064 - 24 * 20, 24 * 700, 24 * 1150};
        home = homes[random.nextInt(homes.length)];
        wide = new int[] {24, 72, 240, 480}[random.nextInt(4)];
        largest = new int[] {3, 20, 400, 9999}[random.nextInt(4)];
        wildness = new int[] {0, 50, 12}[random.nextInt(3)];
        isFull = random.nextInt(4) == 0;
    }

    public static void main(String[] args) throws Exception {
        for (Method method : Rainledger.class.getDeclaredMethods()) {
            if (java.lang.reflect.Modifier.isPublic(method.getModifiers())) {
                METHODS.put(method.getName(), method);
                PLAIN_METHODS.put(method.getName(), PlainArchive.class.getMethod(method.getName(), method.getParameterTypes()));
            }
        }
        int runs = args.length > 0 ? Integer.parseInt(args[0]) : 150;
        long first = args.length > 1 ? Long.parseLong(args[1]) : 1;
        // Runs share nothing but the counts, so they may go side by side.
        long wrong = LongStream.range(first, first + runs).parallel().filter(RandomRunsTest::isWrong).count();
        if (args.length > 2) {
            ANSWERS.entrySet().stream().sorted(Map.Entry.comparingByKey()).forEach(System.out::println);
        }
        System.out.println(wrong == 0 ? runs + " runs: all answers are as due" : "some answers are not as due");
        if (wrong != 0) {
            System.exit(1);
        }
    }

    private static boolean isWrong(long seed) {
        RandomRunsTest test = new RandomRunsTest(seed);
        try {
            String fault = test.run();
            if (fault != null) {
                System.out.println("seed " + seed + ":\n  " + String.join("\n  ", test.calls) + "\n" + fault);
            }
            return fault != null;
        } catch (Exception e) {
            System.out.println("seed " + seed + ": " + e);
            return true;
        }
    }

    /** Many full days one behind the other, for long SERIES and many KNOWN HOURS. */
    private String fillDays() throws Exception {
        String fault = null;
        int blocks = 8 + random.nextInt(14);
        for (int block = 0; block < blocks && fault == null; block++) {
            for (int station = 0; station < 3 && fault == null; station++) {
                fault = call("row", row(station, Math.min(35016, home + 48 * block), 48));
            }
        }
        return fault;
    }

    private String run() throws Exception {
        if (isFull) {
            String fault = fillDays();
            if (fault != null) {
                return fault;
            }
        }
        while (made < 510) {
            int kind = random.nextInt(made < 60 ? 12 : 24);
            String name;
            if (kind < 10) {
                name = ACTS[random.nextInt(ACTS.length)];
            } else if (kind == 10) {
                name = TOLD[random.nextInt(TOLD.length)];
            } else {
                name = ASKED[random.nextInt(ASKED.length)];
            }
            String fault = name.equals("LINE") ? typeLine() : call(name, arguments(name));
            if (fault != null) {
                return fault;
            }
            if (made % 100 == 99) {
                fault = call("isSound", new Object[0]);
                fault = fault == null ? call("digest", new Object[0]) : fault;
                if (fault != null) {
                    return fault;
                }
            }
        }
        return call("digest", new Object[0]);
    }

    /** Types a line that is nearly right, in pieces. */
    private String typeLine() throws Exception {
        String[] dates = {"2000-02-29", "2001-02-28", "2000-01-01", "2003-12-31", "2001-02-29", "1999-12-31",
            "2004-01-01", "2000-00-10", "2000-13-01", "2000-04-31", "2000-01-00", "2000.01-01", "2000-1-01", "2000-01-03"};
        String[] hours = {"0", "5", "05", "23", "24", "-1", "005", "7", "1.", "12", "99"};
        String[] numbers = {"12", "-0.5", "0", "-0", "999.9", "-999.9", "1.", ".5", "-", "1000", "12.34", "1-2", "--5",
            "7", "99.9", "-.5", "5.5", "3.", "-12", "1..2", "0123", "0.0", "12.-"};
        int spoil = random.nextInt(12);
        String text = "" + random.nextInt(spoil == 0 ? 10 : 4);
        text += spaces() + dates[random.nextInt(spoil == 1 ? dates.length : 4)];
        text += spaces() + hours[random.nextInt(spoil == 2 ? hours.length : 4)];
        text += spaces() + numbers[random.nextInt(spoil == 3 ? numbers.length : 4)];
        text = spoil == 4 ? " " + text : spoil == 5 ? text + " " : spoil == 6 ? text + " 1" : text;
        text = spoil == 7 ? text.substring(0, random.nextInt(text.length())) : text;
        String fault = call("say", new Object[] {14, -1, -1, -1, -1, -1});
        for (int at = 0; at < text.length() && fault == null; at += 6) {
            Object[] signs = new Object[6];
            for (int i = 0; i < 6; i++) {
                signs[i] = at + i < text.length() ? "0123456789-. ".indexOf(text.charAt(at + i)) : -1;
            }
            fault = call("say", signs);
        }
        fault = fault == null ? call("fault", new Object[0]) : fault;
        return fault == null ? call("enter", new Object[] {random.nextInt(3)}) : fault;
    }

    private String spaces() {
        return random.nextInt(6) == 0 ? "  " : " ";
    }

    private String call(String name, Object[] arguments) throws Exception {
        made++;
        StringBuilder told = new StringBuilder(name + "(");
        for (int i = 0; i < arguments.length; i++) {
            told.append(i > 0 ? ", " : "").append(arguments[i]);
        }
        calls.add(told + ")");
        Object due = answer(PLAIN_METHODS.get(name), plain, arguments, false);
        Object got = answer(METHODS.get(name), house, arguments, true);
        ANSWERS.merge(name + (due instanceof String && ((String) due).startsWith("throws.") ? " " + due
            : "-".equals(due) || "".equals(due) ? " nothing" : ""), 1, Integer::sum);
        if (due.equals(got)) {
            return null;
        }
        return calls.get(calls.size() - 1) + " answered " + got + ", due is " + due;
    }

    private static Object answer(Method method, Object of, Object[] arguments, boolean isTested) throws Exception {
        try {
            return method.invoke(of, arguments);
        } catch (InvocationTargetException e) {
            Throwable cause = e.getCause();
            // An exception of the machine has its first frame in the library, or no text of ours.
            boolean isOwn = cause.getStackTrace()[0].getClassName().startsWith("Rainledger");
            return (isTested && !isOwn ? "machine." : "throws.") + cause.getClass().getName();
        }
    }

    // ---- arguments

    private Object[] arguments(String name) {
        Object[] a = usual(name);
        for (int i = 0; i < a.length && wildness > 0; i++) {
            if (a[i] instanceof Integer && random.nextInt(wildness) == 0) {
                a[i] = random.nextInt(3) > 0 ? (Integer) a[i] + random.nextInt(3) - 1 : WILD[random.nextInt(WILD.length)];
            }
        }
        return a;
    }

    private Object[] usual(String name) {
        int s = station();
        int h = hour();
        int to = behind(h);
        int day = (home + random.nextInt(wide)) / 24;
        int toDay = Math.min(1460, day + random.nextInt(30));
        switch (name) {
            case "reading": return of(s, h, value());
            case "row": return row(s, h, 1 + random.nextInt(48));
            case "right": return of(s, h, value(), 1 + random.nextInt(4));
            case "withdraw": return of(s, h);
            case "bar": return of(s, h, Math.min(35063, h + random.nextInt(30)));
            case "free": return of(random.nextInt(4));
            case "lend": return of(s, h, value());
            case "join": return of(random.nextBoolean());
            case "unit": return unit();
            case "enough": return of(random.nextInt(3) == 0 ? 1 : 1 + random.nextInt(24));
            case "leap": return of(random.nextBoolean());
            case "say": return of(sign(), sign(), sign(), sign(), sign(), sign());
            case "enter": return of(random.nextInt(3));
            case "value": return of(s, h, random.nextBoolean());
            case "was": return of(s, h, random.nextInt(1 + plain.house(0)));
            case "reason": return of(s, h);
            case "line": return of(random.nextInt(30));
            case "ofSpan": return of(s, h, to, random.nextInt(7));
            case "mean": return of(s, h, to);
            case "rank": return of(s, h, to, value());
            case "ranked": return of(s, h, to, random.nextInt(12));
            case "slide": return of(s, h, 1 + random.nextInt(random.nextBoolean() ? 5 : 100), random.nextBoolean());
            case "top": return of(random.nextInt(16), h, to, 1 + random.nextInt(6));
            case "kept": return kept(s, day);
            case "climate": return climate(s);
            case "records": return of(s, random.nextBoolean());
            case "runs": return of(s, day, toDay, bound(), 1 + random.nextInt(3));
            case "frost": return of(s, 2000 + (random.nextInt(3) == 0 ? random.nextInt(4) : day * 4 / 1464), value(), random.nextBoolean());
            case "degrees": return of(s, day, toDay, value() / 2);
            case "month": return of(s, monthOf(day), random.nextInt(6));
            case "beside": return of(s, monthOf(day), Math.min(47, monthOf(day) + random.nextInt(2)));
            case "breaks": case "breakCost":
                return of(s, day, Math.min(1460, day + random.nextInt(24)), price(), 1 + random.nextInt(4));
            case "fill": case "combination":
                return of(s, others(s), h, Math.min(35063, h + random.nextInt(isFull ? 1000 : 200)), random.nextInt(3) > 0 ? to : hour());
            case "slip": return of(s, h, random.nextInt(16) & ~(1 << s), random.nextInt(largest + 2));
            case "rose": return of(s, h, to, 2 + random.nextInt(7));
            case "pairs": return of(s, station(), h, to);
            case "house": return of(random.nextInt(10));
            default: return new Object[0];
        }
    }

    private static Object[] of(Object... arguments) {
        return arguments;
    }

    private int station() {
        return random.nextInt(3) == 0 ? random.nextInt(4) : random.nextInt(3);
    }

    private int hour() {
        return Math.min(35063, home + random.nextInt(wide));
    }

    private int behind(int hour) {
        return random.nextInt(8) == 0 ? 35063 : Math.min(35063, hour + random.nextInt(100));
    }

    private int value() {
        return random.nextInt(2 * largest + 1) - largest;
    }

    private int sign() {
        int kind = random.nextInt(8);
        return kind == 0 ? -1 : kind == 1 ? 13 : random.nextInt(60) == 0 ? 14 : random.nextInt(13);
    }

    private int bound() {
        return random.nextInt(4) == 0 ? 240000 : value() * random.nextInt(24);
    }

    private int price() {
        return random.nextInt(3) == 0 ? 0 : random.nextInt(3) == 0 ? random.nextInt(100000) : random.nextInt(200);
    }

    private int others(int station) {
        int set = 1 << random.nextInt(4) | 1 << random.nextInt(4);
        return random.nextInt(20) == 0 ? set : set & ~(1 << station);
    }

    private Object[] row(int station, int hour, int many) {
        int step = random.nextInt(21) - 10;
        int value = value();
        if (Math.abs(value + step * (many - 1)) > 9999) {
            step = 0;
        }
        return of(station, Math.min(hour, 35064 - many), value, step, many);
    }

    private Object[] unit() {
        return of(random.nextInt(3), random.nextInt(199) - 99, 1 + random.nextInt(99), random.nextInt(1999) - 999);
    }

    private Object[] kept(int station, int day) {
        int height = random.nextInt(12);
        int place = random.nextInt(3) == 0 ? random.nextInt(1 << 11 - height) : day >> height;
        return of(station, height, place, random.nextBoolean());
    }

    private Object[] climate(int station) {
        int month = random.nextInt(3) == 0 ? 1 + random.nextInt(12) : 1 + home / 24 / 31 % 12;
        int day = random.nextInt(3) == 0 ? 28 + random.nextInt(4) : 1 + random.nextInt(31);
        return random.nextInt(3) == 0 ? of(station, 2, 28 + random.nextInt(2)) : of(station, month, day);
    }

    private static int monthOf(int day) {
        return Math.min(47, day * 48 / 1461);
    }
}
