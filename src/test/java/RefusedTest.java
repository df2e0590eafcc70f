import java.lang.reflect.InvocationTargetException;
import java.lang.reflect.Method;
import java.util.ArrayList;
import java.util.Arrays;
import java.util.HashMap;
import java.util.List;
import java.util.Map;

/**
 * The bounds of each number that a call is given: the least and the greatest one are taken, those beyond are refused
 * with the exception that the document names first, and nothing has changed behind a refused call: an archive that
 * refused it answers all that comes as one that was never asked.
 */
public final class RefusedTest extends Check {
    private static final int EMPTY = 0;
    private static final int RICH = 1;
    private static final int FULL = 2;
    private static final int STATES = 3;
    /** What is thrown beyond the bounds of a number. */
    private static final Class<?> INDEX = IndexOutOfBoundsException.class;
    private static final Class<?> ARGUMENT = IllegalArgumentException.class;
    private static final Class<?> STATE = IllegalStateException.class;
    private static final Map<String, Method> METHODS = new HashMap<>();
    private static final List<List<String>> UNTOUCHED = new ArrayList<>();

    /** The bounds of one number; without an exception each number is taken. */
    private static final class Bound {
        final int least;
        final int greatest;
        final Class<?> beyond;

        Bound(int least, int greatest, Class<?> beyond) {
            this.least = least;
            this.greatest = greatest;
            this.beyond = beyond;
        }
    }

    private static final Bound STATION = new Bound(0, 3, INDEX);
    private static final Bound HOUR = new Bound(0, 35063, INDEX);
    private static final Bound DAY = new Bound(0, 1460, INDEX);
    private static final Bound MONTH = new Bound(0, 47, INDEX);
    private static final Bound VALUE = new Bound(-9999, 9999, ARGUMENT);
    private static final Bound ANY = new Bound(MIN, MAX, null);
    private static final Bound SIGN = new Bound(-1, 14, ARGUMENT);
    private static final Bound NOT_BELOW_0 = new Bound(0, MAX, ARGUMENT);
    private static final Bound NOT_BELOW_1 = new Bound(1, MAX, ARGUMENT);

    public static void main(String[] args) {
        for (Method method : Rainledger.class.getDeclaredMethods()) {
            METHODS.put(method.getName(), method);
        }
        for (int state = 0; state < STATES; state++) {
            UNTOUCHED.add(probe(made(state)));
        }
        acts();
        told();
        askedOfReadings();
        askedOfDays();
        comparisons();
        dependent();
        states();
        finish();
    }

    private static Bound up(int least, int greatest) {
        return new Bound(least, greatest, ARGUMENT);
    }

    private static Bound index(int least, int greatest) {
        return new Bound(least, greatest, INDEX);
    }

    private static Object[] of(Object... arguments) {
        return arguments;
    }

    private static Bound[] in(Bound... bounds) {
        return bounds;
    }

    // ---- the bounds, method by method; a boolean has ANY

    private static void acts() {
        method("reading", of(1, 11, 5), in(STATION, HOUR, VALUE), EMPTY);
        method("row", of(1, 11, 5, 2, 3), in(STATION, index(0, 35061), up(-9999, 9995), up(-500, 500), up(1, 48)), EMPTY);
        method("row", of(1, 11, 5, 0, 1), in(STATION, HOUR, VALUE, up(-500, 500), up(1, 48)), EMPTY);
        method("row", of(1, 35063, 5, 0, 1), in(STATION, HOUR, VALUE, up(-500, 500), up(1, 1)), EMPTY);
        method("right", of(0, 10, 5, 2), in(STATION, HOUR, VALUE, up(1, 4)), RICH);
        method("withdraw", of(0, 10), in(STATION, HOUR), RICH);
        method("bar", of(2, 0, 35063), in(STATION, HOUR, HOUR), RICH);
        method("free", of(2), in(index(0, 4)), RICH);
        method("free", of(2), in(index(0, 5)), FULL);
        method("lend", of(1, 11, 5), in(STATION, HOUR, VALUE), RICH);
    }

    private static void told() {
        method("unit", of(1, 2, 3, 4), in(index(0, 2), up(-99, 99), up(1, 99), up(-999, 999)), RICH);
        method("enough", of(5), in(up(1, 24)), RICH);
        method("say", of(1, 2, 3, 4, 5, 6), in(SIGN, SIGN, SIGN, SIGN, SIGN, SIGN), RICH);
        method("enter", of(1), in(index(0, 2)), RICH);
        method("look", of(), in(), RICH);
        method("leap", of(true), in(ANY), RICH);
        method("join", of(true), in(ANY), RICH);
    }

    private static void askedOfReadings() {
        method("value", of(0, 10, true), in(STATION, HOUR, ANY), RICH);
        method("was", of(0, 10, 3), in(STATION, HOUR, up(0, momentOf(RICH))), RICH);
        method("was", of(0, 10, 0), in(STATION, HOUR, up(0, 0)), EMPTY);
        method("reason", of(0, 10), in(STATION, HOUR), RICH);
        method("line", of(0), in(NOT_BELOW_0), RICH);
        method("ofSpan", of(0, 0, 35063, 3), in(STATION, HOUR, HOUR, up(0, 6)), RICH);
        method("mean", of(0, 0, 35063), in(STATION, HOUR, HOUR), RICH);
        method("rank", of(0, 0, 35063, 5), in(STATION, HOUR, HOUR, ANY), RICH);
        method("ranked", of(0, 0, 35063, 2), in(STATION, HOUR, HOUR, NOT_BELOW_0), RICH);
        method("slide", of(0, 9, 5, true), in(STATION, HOUR, up(1, 100), ANY), RICH);
        method("top", of(5, 0, 35063, 3), in(up(0, 15), HOUR, HOUR, up(1, 6)), RICH);
        for (int height = 0; height <= 11; height++) {
            int last = (1 << 11 - height) - 1;
            method("kept", of(0, height, last, true), in(STATION, index(0, height), index(0, last), ANY), RICH);
            method("kept", of(0, height, 0, false), in(STATION, index(0, 11), index(0, last), ANY), RICH);
        }
    }

    private static void askedOfDays() {
        int[] days = {31, 29, 31, 30, 31, 30, 31, 31, 30, 31, 30, 31};
        for (int month = 1; month <= 12; month++) {
            method("climate", of(0, month, 1), in(STATION, up(1, 12), up(1, days[month - 1])), RICH);
        }
        method("records", of(0, true), in(STATION, ANY), RICH);
        method("runs", of(0, 0, 1460, 5, 2), in(STATION, DAY, DAY, ANY, NOT_BELOW_1), RICH);
        method("frost", of(0, 2001, 5, true), in(STATION, up(2000, 2003), ANY, ANY), RICH);
        method("degrees", of(0, 0, 1460, 5), in(STATION, DAY, DAY, ANY), RICH);
        method("month", of(0, 0, 3), in(STATION, MONTH, up(0, 5)), RICH);
        method("beside", of(0, 0, 1), in(STATION, MONTH, MONTH), RICH);
    }

    private static void comparisons() {
        for (String name : new String[] {"breaks", "breakCost"}) {
            method(name, of(0, 30, 30, 7, 2), in(STATION, index(7, 30), index(30, 53), up(0, 99999), up(1, 4)), RICH);
            method(name, of(0, 1460, 1460, 7, 2), in(STATION, index(1437, 1460), index(1460, 1460), up(0, 99999), up(1, 4)), RICH);
            method(name, of(0, 0, 0, 7, 2), in(STATION, index(0, 0), index(0, 23), up(0, 99999), up(1, 4)), RICH);
        }
        for (String name : new String[] {"fill", "combination"}) {
            method(name, of(3, 6, 0, 999, 20), in(STATION, up(1, 6), index(0, 999), index(0, 999), HOUR), RICH);
            method(name, of(3, 6, 34064, 35063, 35063), in(STATION, up(1, 6), index(34064, 35063), index(34064, 35063), HOUR), RICH);
        }
        method("slip", of(3, 10, 6, 5), in(STATION, HOUR, up(0, 7), NOT_BELOW_0), RICH);
        method("slip", of(0, 10, 6, 5), in(STATION, HOUR, up(0, 14), NOT_BELOW_0), RICH);
        method("rose", of(0, 0, 35063, 4), in(STATION, HOUR, HOUR, up(2, 8)), RICH);
        method("pairs", of(0, 1, 0, 35063), in(STATION, STATION, HOUR, HOUR), RICH);
        method("house", of(3), in(up(0, 9)), RICH);
    }

    /** Looks at the bounds of each number of a method, with the others as they are given. */
    private static void method(String name, Object[] base, Bound[] bounds, int state) {
        about(name + Arrays.toString(base));
        taken(name, base, state);
        for (int i = 0; i < bounds.length; i++) {
            if (base[i] instanceof Boolean) {
                taken(name, with(base, i, !(Boolean) base[i]), state);
                continue;
            }
            Bound bound = bounds[i];
            taken(name, with(base, i, bound.least), state);
            taken(name, with(base, i, bound.greatest), state);
            for (int beyond : numbersBeyond(name, bound)) {
                refused(name, with(base, i, beyond), bound.beyond, state);
                // Of several exceptions the one that is named first is thrown.
                for (int j = 0; j < bounds.length; j++) {
                    if (j != i && bounds[j].beyond != null) {
                        Class<?> first = bound.beyond == INDEX || bounds[j].beyond == INDEX ? INDEX : ARGUMENT;
                        refusedQuietly(name, with(with(base, i, beyond), j, MAX), firstOf(first, bounds[j], MAX, bound), state);
                        refusedQuietly(name, with(with(base, i, beyond), j, MIN), firstOf(first, bounds[j], MIN, bound), state);
                    }
                }
            }
        }
    }

    /** A bound at MAX or MIN is none there: then the other number alone is refused. */
    private static Class<?> firstOf(Class<?> both, Bound other, int number, Bound bound) {
        return number >= other.least && number <= other.greatest ? bound.beyond : both;
    }

    private static List<Integer> numbersBeyond(String name, Bound bound) {
        List<Integer> found = new ArrayList<>();
        for (int beyond : new int[] {bound.least - 1, MIN, bound.greatest + 1, MAX}) {
            boolean isBeyond = beyond < bound.least || beyond > bound.greatest;
            boolean isFar = beyond == MIN || beyond == MAX;
            if (isBeyond && bound.beyond != null && (isFar || isOfDocument(bound, name))) {
                found.add(beyond);
            }
        }
        return found;
    }

    /**
     * Some bounds of an HOUR or a DAY are narrower here than those of the document, since another number makes them;
     * next to them another exception is due, which dependent() looks at.
     */
    private static boolean isOfDocument(Bound bound, String name) {
        boolean isNumbered = name.equals("kept") || name.equals("free") || name.equals("unit") || name.equals("enter");
        boolean isWhole = bound == STATION || bound == HOUR || bound == DAY || bound == MONTH;
        return bound.beyond == ARGUMENT || isNumbered || isWhole;
    }

    private static Object[] with(Object[] base, int i, Object one) {
        Object[] changed = base.clone();
        changed[i] = one;
        return changed;
    }

    // ---- bounds that other numbers make

    private static void dependent() {
        about("the last VALUE of a row");
        beyond("row", ARGUMENT, of(1, 0, 9800, 100, 3), of(1, 0, 9800, -500, 41), of(1, 0, -9800, -100, 3), of(1, 0, -9999, 500, 41));
        within("row", EMPTY, of(1, 0, 9799, 100, 3), of(1, 0, 9999, -500, 40), of(1, 0, -9799, -100, 3), of(1, 0, -9999, 500, 40));
        about("the last HOUR of a row");
        beyond("row", ARGUMENT, of(1, 35063, 0, 0, 2), of(1, 35017, 0, 0, 48), of(3, 35063, 0, 0, 2), of(3, 35062, 0, 0, 3));
        within("row", EMPTY, of(1, 35063, 0, 0, 1), of(1, 35016, 0, 0, 48), of(3, 35063, 0, 0, 1), of(3, 35062, 0, 0, 2));
        about("to before from");
        beyond("bar", ARGUMENT, of(0, 1, 0), of(3, 35063, 35062), of(3, 35063, 0));
        within("bar", RICH, of(0, 1, 1), of(0, 0, 0), of(3, 35063, 35063), of(3, 35062, 35063));
        spansOf("ofSpan", of(0, 0, 0, 3));
        spansOf("mean", of(0, 0, 0));
        spansOf("rank", of(0, 0, 0, 3));
        spansOf("ranked", of(0, 0, 0, 3));
        spansOf("top", of(15, 0, 0, 3));
        spansOf("rose", of(0, 0, 0, 3));
        beyond("pairs", ARGUMENT, of(0, 1, 1, 0), of(0, 1, 35063, 35062));
        within("pairs", RICH, of(0, 1, 0, 0), of(0, 1, 35063, 35063), of(3, 3, 35062, 35063));
        beyond("runs", ARGUMENT, of(0, 1, 0, 5, 1), of(0, 1460, 1459, 5, 1));
        within("runs", RICH, of(0, 0, 0, 5, 1), of(0, 1460, 1460, 5, 1));
        beyond("degrees", ARGUMENT, of(0, 1, 0, 5), of(0, 1460, 1459, 5));
        within("degrees", RICH, of(0, 0, 0, 5), of(0, 1460, 1460, 5));
        about("to from from to from + 23");
        for (String name : new String[] {"breaks", "breakCost"}) {
            beyond(name, ARGUMENT, of(0, 1, 0, 5, 1), of(0, 0, 24, 5, 1), of(0, 1460, 1459, 5, 1), of(0, 1436, 1460, 5, 1));
            within(name, RICH, of(0, 0, 0, 5, 1), of(0, 0, 23, 5, 1), of(0, 1460, 1460, 5, 1), of(0, 1437, 1460, 5, 1));
        }
        about("to from from to from + 999, others");
        for (String name : new String[] {"fill", "combination"}) {
            beyond(name, ARGUMENT, of(3, 1, 1, 0, 5), of(3, 1, 0, 1000, 5), of(3, 1, 35063, 35062, 5), of(3, 1, 34063, 35063, 5));
            within(name, RICH, of(3, 1, 0, 0, 5), of(3, 1, 0, 999, 5), of(3, 1, 35063, 35063, 5), of(3, 1, 34064, 35063, 5));
            setsOf(name);
        }
        setsOfSlip();
        about("a date that no year has");
        beyond("climate", ARGUMENT, of(0, 1, 32), of(0, 2, 30), of(0, 4, 31), of(0, 6, 31), of(0, 9, 31), of(0, 11, 31), of(0, 12, 32), of(0, 2, 0));
        within("climate", RICH, of(0, 1, 31), of(0, 2, 29), of(0, 4, 30), of(0, 6, 30), of(0, 9, 30), of(0, 11, 30), of(0, 12, 31), of(0, 2, 1));
    }

    private static void spansOf(String name, Object[] base) {
        beyond(name, ARGUMENT, with(with(base, 1, 1), 2, 0), with(with(base, 1, 35063), 2, 35062), with(with(base, 1, 35063), 2, 0));
        within(name, RICH, base, with(with(base, 1, 35063), 2, 35063), with(with(base, 1, 35062), 2, 35063));
    }

    /** Sets of one or two other STATIONS, of all numbers from -1 to 16. */
    private static void setsOf(String name) {
        for (int station = 0; station < 4; station++) {
            for (int set = -1; set <= 16; set++) {
                boolean isRight = set > 0 && set < 16 && Integer.bitCount(set) <= 2 && (set & 1 << station) == 0;
                if (isRight) {
                    within(name, RICH, of(station, set, 0, 20, 5));
                } else {
                    beyond(name, ARGUMENT, of(station, set, 0, 20, 5));
                }
            }
        }
    }

    private static void setsOfSlip() {
        for (int station = 0; station < 4; station++) {
            for (int set = -1; set <= 16; set++) {
                if (set >= 0 && set < 16 && (set & 1 << station) == 0) {
                    within("slip", RICH, of(station, 10, set, 0));
                } else {
                    beyond("slip", ARGUMENT, of(station, 10, set, 0));
                }
            }
        }
    }

    private static void within(String name, int state, Object[]... calls) {
        for (Object[] arguments : calls) {
            taken(name, arguments, state);
        }
    }

    private static void beyond(String name, Class<?> due, Object[]... calls) {
        for (Object[] arguments : calls) {
            for (int state = 0; state < STATES; state++) {
                refused(name, arguments, due, state);
            }
        }
    }

    // ---- what the state refuses

    private static void states() {
        about("one is THERE");
        refused("reading", of(0, 10, 5), STATE, RICH);
        refused("reading", of(0, 10, 42), STATE, FULL);
        about("THERE, and BARRED");
        refused("reading", of(3, 10, 5), STATE, FULL);
        about("none is THERE");
        for (int state = 0; state < STATES; state++) {
            refused("right", of(2, 777, 5, 1), STATE, state);
            refused("withdraw", of(2, 777), STATE, state);
            refused("right", of(2, 35063, 5, 1), STATE, state);
            refused("withdraw", of(0, 1), STATE, state);
        }
        about("6 are BARRED");
        refused("bar", of(0, 0, 0), STATE, FULL);
        refused("bar", of(3, 0, 35063), STATE, FULL);
        refused("bar", of(3, 1, 0), ARGUMENT, FULL);
        refused("bar", of(4, 1, 0), INDEX, FULL);
        about("no STEP BACK");
        refused("undo", of(), STATE, EMPTY);
        about("no such BARRED SPAN");
        refused("free", of(0), INDEX, EMPTY);
        refused("free", of(5), INDEX, RICH);
        refused("free", of(6), INDEX, FULL);
        about("TYPED of 30 SIGNS");
        for (int i = 0; i < 6; i++) {
            refused("say", with(of(-1, -1, -1, -1, -1, -1), i, 12), STATE, FULL);
            refused("say", with(of(5, -1, -1, -1, -1, -1), i, 15), ARGUMENT, FULL);
        }
        refused("say", of(5, 13, -1, -1, -1, -1), STATE, FULL);
        refused("say", of(5, 14, -1, -1, -1, -1), STATE, FULL);
        refused("say", of(13, 5, 5, 14, -1, -1), STATE, FULL);
        about("TYPED that is not right");
        unchanged("enter", of(0), -2, EMPTY);
        unchanged("enter", of(1), -2, FULL);
        unchanged("enter", of(2), -9, RICH);
    }

    // ---- calls

    private static Object answer(Rainledger x, String name, Object[] arguments) {
        Method method = METHODS.get(name);
        return thrownBy(() -> {
            try {
                return method.invoke(x, arguments);
            } catch (InvocationTargetException e) {
                throw (RuntimeException) e.getCause();
            } catch (IllegalAccessException e) {
                return e;
            }
        });
    }

    /** A call within its bounds throws nothing. */
    private static void taken(String name, Object[] arguments, int state) {
        Object got = answer(made(state), name, arguments);
        about(name + Arrays.toString(arguments));
        is("taken", got instanceof Class || got instanceof Exception ? got : "taken");
    }

    private static void refused(String name, Object[] arguments, Class<?> due, int state) {
        for (int one = 0; one < STATES; one++) {
            // What is not within its bounds is so in each state; what a state refuses is asked of that one.
            if (one == state || due != STATE && !isOfState(name)) {
                unchanged(name, arguments, due, one);
            }
        }
    }

    /** Their bounds, too, are made by what is there. */
    private static boolean isOfState(String name) {
        return name.equals("free") || name.equals("was");
    }

    private static void unchanged(String name, Object[] arguments, Object due, int state) {
        Rainledger x = made(state);
        about(name + Arrays.toString(arguments) + " in state " + state);
        is(due, answer(x, name, arguments));
        List<String> got = probe(x);
        List<String> untouched = UNTOUCHED.get(state);
        for (int i = 0; i < untouched.size(); i++) {
            if (!untouched.get(i).equals(got.get(i))) {
                is(untouched.get(i), got.get(i));
                return;
            }
        }
        is(untouched.size(), got.size());
    }

    private static void refusedQuietly(String name, Object[] arguments, Class<?> due, int state) {
        about(name + Arrays.toString(arguments));
        is(due, answer(made(state), name, arguments));
    }

    // ---- archives

    private static int momentOf(int state) {
        return made(state).house(0);
    }

    private static Rainledger made(int state) {
        Rainledger x = new Rainledger();
        if (state == EMPTY) {
            return x;
        }
        for (int station = 0; station < 4; station++) {
            x.reading(station, 10, 40 + station);
            x.row(station, 600, 7 * station, 3 - 2 * station, 48);
        }
        x.reading(0, 0, -3);
        x.reading(0, 35063, 9);
        x.right(0, 10, 42, 3);
        x.lend(0, 10, 50);
        x.lend(2, 5, 6);
        x.join(false);
        x.lend(1, 10, -8);
        x.lend(1, 9, 90);
        x.right(1, 10, 44, 2);
        x.unit(0, 2, 3, -5);
        x.unit(1, -1, 1, 0);
        x.unit(2, 99, 1, 999);
        x.enough(2);
        x.leap(true);
        x.look();
        type(x, "1 2000-01-04 7 99.0");
        for (int i = 0; i < 5; i++) {
            x.bar(i % 3, 610 + 4 * i, 615 + 5 * i);
        }
        if (state == FULL) {
            x.bar(3, 0, 30);
            type(x, "12.3 -45.678901234567890 1 2 3");
        }
        return x;
    }

    /** All that can be seen of an archive, in fewer than 480 calls: what it tells, and what it does from here on. */
    private static List<String> probe(Rainledger x) {
        List<String> told = new ArrayList<>();
        tell(x, told);
        int now = x.house(0);
        for (int moment = 0; moment <= now; moment++) {
            StringBuilder row = new StringBuilder("was");
            for (int hour : new int[] {10, 612, 625}) {
                row.append(' ').append(x.was(0, hour, moment));
            }
            told.add(row.toString());
        }
        told.add("february " + x.climate(0, 2, 28) + " " + x.month(0, 0, 0));
        for (int left = 8; left >= 0; left--) {
            told.add("undo " + thrownBy(x::undo) + " " + x.house(1) + " " + x.house(2) + " " + x.house(3) + " " + x.value(0, 10, true));
        }
        told.add("join " + x.join(true) + " " + x.quarrels() + " " + x.house(6) + " " + x.digest());
        for (int unit = 0; unit < 3; unit++) {
            type(x, "3 2000-02-2" + (8 + unit / 2) + " 5 -3.1");
            told.add("unit " + x.enter(unit) + " " + x.value(3, (58 + unit / 2) * 24 + 5, true));
        }
        told.add("february " + x.climate(3, 2, 28) + " " + x.climate(3, 2, 29));
        x.row(2, 30000, 1, 1, 48);
        told.add("enough " + x.month(2, 41, 0) + " " + x.enough(1) + " " + x.look() + " " + x.leap(false));
        tell(x, told);
        return told;
    }

    private static void tell(Rainledger x, List<String> told) {
        for (int what = 0; what <= 9; what++) {
            told.add("house " + what + " " + x.house(what));
        }
        told.add("typed " + x.typed() + "|" + x.fault());
        told.add("quarrels " + x.quarrels());
        told.add("digest " + x.digest());
        for (int hour : new int[] {0, 5, 9, 10, 11, 599, 600, 610, 612, 625, 647, 648, 35063}) {
            StringBuilder row = new StringBuilder("hour " + hour);
            for (int station = 0; station < 4; station++) {
                row.append(' ').append(x.value(station, hour, true)).append('/').append(x.reason(station, hour));
            }
            told.add(row.toString());
        }
        for (int station = 0; station < 4; station++) {
            told.add("station " + x.mean(station, 0, 35063) + " " + x.ofSpan(station, 0, 35063, 5) + " " + x.rose(station, 0, 35063, 8)
                + " " + x.records(station, true) + " " + x.slide(station, 605, 3, false));
        }
    }
}
