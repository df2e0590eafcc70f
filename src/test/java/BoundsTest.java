import java.math.BigInteger;
import java.time.LocalDate;
import java.util.Random;

/**
 * Each sentence of the document that names a boundary case, with a test of its own that is called by the sentence:
 * the last that is still so, and the first that is not. What each call refuses is in RefusedTest.
 */
public final class BoundsTest extends Check {
    public static void main(String[] args) {
        numbers();
        daysAndHours();
        readings();
        barred();
        stepsBack();
        toldOnce();
        keptSums();
        windowsAndDays();
        breaks();
        fillings();
        otherArchive();
        lines();
        typing();
        faults();
        promisesOfActs();
        promisesOfReadings();
        promisesOfSpans();
        promisesOfDays();
        promisesOfComparisons();
        life();
        finish();
    }

    private static Rainledger at(int station, int hour, int... values) {
        Rainledger x = new Rainledger();
        put(x, station, hour, values);
        return x;
    }

    /** An archive whose DAYS of the STATION 0 have these sums, each by one READING at its first HOUR. */
    private static Rainledger series(int... sums) {
        Rainledger x = new Rainledger();
        for (int day = 0; day < sums.length; day++) {
            put(x, 0, day * 24, sums[day]);
        }
        return x;
    }

    private static int dayOf(int year, int month, int day) {
        return (int) (LocalDate.of(year, month, day).toEpochDay() - LocalDate.of(2000, 1, 1).toEpochDay());
    }

    // ---- Description, ahead of its sections

    private static void numbers() {
        about("X / Y is rounded down");
        Rainledger x = new Rainledger();
        is(33, x.unit(0, 1, 3, 0));
        is(-34, x.unit(0, -1, 3, 0));
        is(-100, x.unit(0, -1, 1, 0));
        is(-2, x.unit(0, -1, 99, 0));
        is(1, x.unit(0, 1, 99, 0));
        about("X MOD Y is X less Y * (X / Y)");
        is("0 0 0 0 0 0 0 1", at(0, 0, -1).rose(0, 0, 0, 8));
        is("1 0 0 0 0 0 0 0", at(0, 0, -360).rose(0, 0, 0, 8));
        is("0 0 0 0 0 0 0 1", at(0, 0, -361).rose(0, 0, 0, 8));
        about("NONE is -1, VOID is -10000 (no VALUE)");
        is(-1, x.reason(0, 0));
        is(-10000, x.value(0, 0, true));
        noArgument(() -> x.reading(0, 0, -10000));
        is(-9999, at(1, 1, -9999).value(1, 1, false));
        about("A set is the sum of 2^k for each number k");
        Rainledger sets = new Rainledger();
        for (int station = 0; station < 4; station++) {
            sets.reading(station, 5, station);
        }
        for (int set = 0; set < 16; set++) {
            StringBuilder due = new StringBuilder();
            for (int station = 3; station >= 0; station--) {
                if ((set >> station & 1) == 1) {
                    due.append(due.length() > 0 ? " " : "").append(station).append("@5/").append(station);
                }
            }
            is(due.toString(), sets.top(set, 5, 5, 6));
        }
        about("Exact fractions are told in lowest terms");
        is("3/4", at(0, 0, 0, 1, 2, 0).mean(0, 0, 3));
        is("-1/2", at(0, 0, -3, 1, 0, 0).mean(0, 0, 3));
        is("5", at(0, 0, 4, 6).mean(0, 0, 1));
        is("0", at(0, 0, -4, 4, 0).mean(0, 0, 2));
        is("-1", at(0, 0, -1, -1).mean(0, 0, 1));
        is("-9999", at(0, 0, -9999).mean(0, 0, 0));
        is("19997/2", at(0, 0, 9999, 9998).mean(0, 0, 1));
    }

    // ---- section 1

    private static void daysAndHours() {
        about("DAYS are 0 (1 January 2000) to 1460 (31 December 2003)");
        is("0 2000-01-01 00 1.0", at(0, 0, 10).line(0));
        is("0 2003-12-31 23 1.0", at(0, LAST_HOUR, 10).line(0));
        is("0-0", at(0, 0, 1).runs(0, 0, 0, 1, 1));
        is("1460-1460", at(0, LAST_HOUR, 1).runs(0, LAST_DAY, LAST_DAY, 1, 1));
        about("the years 2000 to 2003 have 366, 365, 365 and 365 days");
        int[] first = {0, 366, 731, 1096, 1461};
        Rainledger years = new Rainledger();
        for (int year = 0; year < 4; year++) {
            put(years, 1, first[year] * 24, 5);
            put(years, 1, first[year + 1] * 24 - 1, 5);
        }
        for (int year = 0; year < 4; year++) {
            is(first[year], years.frost(1, 2000 + year, 5, true));
            is(first[year + 1] - 1, years.frost(1, 2000 + year, 5, false));
            is("1 " + (2000 + year) + "-01-01 00 0.5", years.line(2 * year));
            is("1 " + (2000 + year) + "-12-31 23 0.5", years.line(2 * year + 1));
        }
        about("the DAY of an HOUR is HOUR / 24");
        for (int hour : new int[] {0, 23, 24, 47, 48, 35039, 35040, LAST_HOUR}) {
            Rainledger x = at(2, hour, 7);
            is(7, x.kept(2, 0, hour / 24, false));
            is((hour / 24) + "-" + (hour / 24), x.runs(2, 0, LAST_DAY, 7, 1));
        }
        about("MONTHS are 0 (January 2000) to 47");
        for (int month = 0; month < 48; month++) {
            monthIsRight(month);
        }
        about("STATIONS are 0 to 3");
        Rainledger x = new Rainledger();
        is(1, x.reading(0, LAST_HOUR, 1));
        is(2, x.reading(3, 0, 2));
        is(0, x.ofSpan(1, 0, LAST_HOUR, 0) + x.ofSpan(2, 0, LAST_HOUR, 0));
        noIndex(() -> x.reading(-1, 0, 0));
        noIndex(() -> x.reading(4, 0, 0));
        about("A VALUE is -9999 to 9999");
        is("-9999 9999 - - - - - -", at(0, 0, -9999, 9999).slide(0, 0, 1, true));
        noArgument(() -> x.reading(1, 0, -10000));
        noArgument(() -> x.reading(1, 0, 10000));
    }

    /** Its first and its last HOUR are in it, the HOURS around are not. */
    private static void monthIsRight(int month) {
        LocalDate begin = LocalDate.of(2000 + month / 12, month % 12 + 1, 1);
        int first = dayOf(begin.getYear(), begin.getMonthValue(), 1);
        int many = begin.lengthOfMonth();
        Rainledger x = new Rainledger();
        x.reading(0, first * 24, 1);
        x.reading(0, (first + many) * 24 - 1, 10);
        if (month > 0) {
            x.reading(0, first * 24 - 1, 100);
        }
        if (month < 47) {
            x.reading(0, (first + many) * 24, 1000);
        }
        is(many, x.month(0, month, 5));
        is(2, x.month(0, month, 2));
        is(11, x.month(0, month, 3));
        is(2, x.month(0, month, 0));
    }

    private static void readings() {
        about("a READING is THERE, or not (at first)");
        Rainledger empty = new Rainledger();
        for (int station = 0; station < 4; station++) {
            for (int hour : new int[] {0, 1, LAST_HOUR - 1, LAST_HOUR}) {
                is(VOID, empty.value(station, hour, true));
                is(NONE, empty.reason(station, hour));
            }
        }
        about("The MOMENT is how many ACTS there were (0 at first)");
        Rainledger x = new Rainledger();
        is(0, x.house(0));
        x.reading(0, 0, 1);
        is(1, x.house(0));
        x.row(0, 0, 1, 1, 1);
        is(2, x.house(0));
        x.right(0, 0, 1, 1);
        is(3, x.house(0));
        x.withdraw(0, 0);
        is(4, x.house(0));
        x.bar(0, 0, 0);
        is(5, x.house(0));
        x.free(0);
        is(6, x.house(0));
        x.join(true);
        is(7, x.house(0));
        type(x, "0 2000-01-01 0 0");
        x.enter(0);
        is(8, x.house(0));
        type(x, "0 2000-01-01 0 0");
        x.enter(0);
        is(9, x.house(0));
        about("what is no ACT");
        noActs(x);
        reasons();
    }

    private static void noActs(Rainledger x) {
        x.lend(0, 0, 1);
        x.unit(0, 1, 1, 0);
        x.enough(1);
        x.leap(true);
        x.say(1, -1, -1, -1, -1, -1);
        x.enter(0);
        x.look();
        x.digest();
        x.isSound();
        is(9, x.house(0));
        is(8, x.house(7));
    }

    private static void reasons() {
        about("a REASON (0 as it comes; 1 to 4, as it was put right last)");
        Rainledger x = new Rainledger();
        x.reading(0, 0, 5);
        is(0, x.reason(0, 0));
        for (int reason = 1; reason <= 4; reason++) {
            x.right(0, 0, 5, reason);
            is(reason, x.reason(0, 0));
        }
        x.right(0, 0, 5, 2);
        is(2, x.reason(0, 0));
        about("one that was withdrawn and comes again has 0");
        x.withdraw(0, 0);
        x.reading(0, 0, 5);
        is(0, x.reason(0, 0));
        x.right(0, 0, 5, 3);
        x.withdraw(0, 0);
        x.row(0, 0, 5, 0, 1);
        is(0, x.reason(0, 0));
        x.right(0, 0, 5, 3);
        x.withdraw(0, 0);
        type(x, "0 2000-01-01 0 0.5");
        x.enter(0);
        is(0, x.reason(0, 0));
        x.right(0, 0, 5, 3);
        x.withdraw(0, 0);
        x.lend(0, 0, 5);
        x.join(true);
        is(0, x.reason(0, 0));
        about("a row leaves the REASON of what is THERE");
        x.right(0, 0, 5, 4);
        x.row(0, 0, 9, 0, 2);
        is(4, x.reason(0, 0));
        is(0, x.reason(0, 1));
    }

    private static void barred() {
        about("A SPAN, of HOURS from one to another (with both), can be BARRED");
        Rainledger x = at(1, 9, 1, 2, 3, 4, 5);
        is(3, x.bar(1, 10, 12));
        is("1 - - - 5 - - -", x.slide(1, 9, 1, true));
        Rainledger one = at(1, 9, 1, 2, 3);
        is(1, one.bar(1, 10, 10));
        is("1 - 3 - - - - -", one.slide(1, 9, 1, true));
        Rainledger whole = at(1, 0, 1);
        put(whole, 1, LAST_HOUR, 2);
        is(2, whole.bar(1, 0, LAST_HOUR));
        is(2, whole.free(0));
        is(1, whole.bar(1, 1, LAST_HOUR));
        is(1, whole.bar(1, 0, LAST_HOUR - 1));
        atMostSix();
        about("if one is freed, those behind it move up");
        for (int number = 0; number < 6; number++) {
            movedUp(number);
        }
        about("A READING STANDS, if no BARRED SPAN of its STATION has its HOUR");
        Rainledger y = new Rainledger();
        for (int station = 0; station < 4; station++) {
            y.reading(station, 5, station);
        }
        y.bar(2, 0, LAST_HOUR);
        is(3, y.house(2));
        is(VOID, y.value(2, 5, false));
        is(1, y.value(1, 5, false));
        is(3, y.value(3, 5, false));
        y.bar(2, 5, 5);
        y.free(0);
        is(VOID, y.value(2, 5, false));
        y.free(0);
        is(2, y.value(2, 5, false));
        goesByWhatStands();
    }

    private static void atMostSix() {
        about("at most 6 are BARRED at a time");
        Rainledger x = at(0, 0, 1);
        for (int i = 0; i < 6; i++) {
            is(i, x.house(3));
            is(i == 0 ? 1 : 0, x.bar(0, 0, i));
        }
        is(6, x.house(3));
        noState(() -> x.bar(0, 0, 0));
        is(7, x.house(0));
        x.free(5);
        is(0, x.bar(0, 0, 0));
        noState(() -> x.bar(1, 0, 0));
        x.undo();
        is(0, x.bar(1, 0, 0));
        noState(() -> x.bar(1, 0, 0));
    }

    /** Of six SPANS, each of its own HOUR, the one with the number is freed. */
    private static void movedUp(int number) {
        Rainledger x = at(0, 0, 0, 1, 2, 3, 4, 5);
        for (int i = 0; i < 6; i++) {
            x.bar(0, i, i);
        }
        is(1, x.free(number));
        is(number, x.value(0, number, false));
        int next = number == 0 ? 1 : 0;
        for (int i = 0; i < 5; i++) {
            x.free(0);
            is(next, x.value(0, next, false));
            next += next + 1 == number ? 2 : 1;
            is(4 - i, x.house(3));
        }
        noIndex(() -> x.free(0));
    }

    private static void goesByWhatStands() {
        about("All that is asked goes by what STANDS");
        Rainledger x = at(0, 0, 5, 6, 7);
        put(x, 1, 0, 15, 26, 37);
        put(x, 2, 0, 1, 1, 2);
        x.bar(0, 1, 1);
        is("0 2000-01-01 02 0.7", x.line(1));
        is("6", x.mean(0, 0, 2));
        is(1, x.rank(0, 0, 2, 7));
        is(7, x.ranked(0, 0, 2, 1));
        is("5 7 7 - - - - -", x.slide(0, 0, 2, true));
        is("7@2/0 5@0/0", x.top(1, 0, 2, 6));
        is(12, x.kept(0, 0, 0, false));
        is("6", x.climate(0, 1, 1));
        is("0 2", x.records(0, true));
        is("", x.runs(0, 0, 0, 11, 1));
        is("0-0", x.runs(0, 0, 0, 12, 1));
        is(NONE, x.frost(0, 2000, 4, true));
        is("6", x.degrees(0, 0, 0, 0));
        is(12, x.month(0, 0, 3));
        is(2, x.month(0, 0, 2));
        is("0", x.breakCost(0, 0, 0, 0, 1));
        is("-40 11", x.combination(1, 1, 0, 2, 9));
        is(NONE, x.slip(0, 1, 2, 0));
        is("2 0", x.rose(0, 0, 2, 2));
        is(6, x.pairs(0, 1, 0, 2));
        is(8, x.house(2));
        is(9, x.house(1));
    }

    private static void stepsBack() {
        about("STEPS BACK: at most 8; with 8 the oldest one goes");
        Rainledger x = new Rainledger();
        noState(() -> x.undo());
        for (int i = 1; i <= 8; i++) {
            x.reading(0, i, i);
            is(i, x.house(7));
        }
        x.reading(0, 9, 9);
        is(8, x.house(7));
        for (int left = 7; left >= 0; left--) {
            is(left, x.undo());
        }
        noState(() -> x.undo());
        is(1, x.house(0));
        is(1, x.value(0, 1, false));
        is(VOID, x.value(0, 2, true));
        x.reading(0, 2, 22);
        is(1, x.house(7));
        is(0, x.undo());
        noState(() -> x.undo());
        about("eight ACTS can all be undone");
        Rainledger eight = new Rainledger();
        for (int i = 0; i < 8; i++) {
            eight.reading(3, i, i);
        }
        for (int left = 7; left >= 0; left--) {
            is(left, eight.undo());
        }
        is(0, eight.house(0));
        is(0, eight.house(1));
        about("as if it had never been");
        Rainledger y = at(0, 0, 1);
        y.right(0, 0, 2, 1);
        y.undo();
        is(2, y.reading(1, 0, 3));
        is(1, y.was(0, 0, 2));
        is(3, y.was(1, 0, 2));
        noArgument(() -> y.was(0, 0, 3));
        undoOfEachAct();
        undoKeepsBarredOrder();
        undoLeaves();
    }

    private static void undoOfEachAct() {
        about("to undo takes the last one: READINGS with REASONS are as they were");
        Rainledger x = at(0, 0, 10);
        x.right(0, 0, 11, 4);
        String before = allOf(x);
        x.row(0, 0, 1, 1, 48);
        x.undo();
        is(before, allOf(x));
        x.right(0, 0, -5, 2);
        x.undo();
        is(before, allOf(x));
        x.withdraw(0, 0);
        x.undo();
        is(before, allOf(x));
        x.bar(0, 0, 5);
        x.undo();
        is(before, allOf(x));
        x.reading(3, LAST_HOUR, -9999);
        x.undo();
        is(before, allOf(x));
        type(x, "0 2000-01-01 0 7");
        x.enter(0);
        is(1, x.reason(0, 0));
        x.undo();
        is(before, allOf(x));
        type(x, "2 2003-12-31 23 7");
        x.enter(0);
        x.undo();
        is(before, allOf(x));
        x.lend(0, 0, 12);
        x.lend(1, 5, 6);
        x.join(true);
        is(0, x.reason(0, 0));
        x.undo();
        is(before, allOf(x));
    }

    /** What undo brings back, but for the STEPS. */
    private static String allOf(Rainledger x) {
        StringBuilder told = new StringBuilder();
        for (int station = 0; station < 4; station++) {
            for (int hour : new int[] {0, 1, 5, 47, 48, LAST_HOUR}) {
                told.append(x.value(station, hour, true)).append('/').append(x.reason(station, hour)).append(' ');
            }
            told.append(x.ofSpan(station, 0, LAST_HOUR, 1)).append(' ');
        }
        for (int what = 0; what <= 3; what++) {
            told.append(x.house(what)).append(' ');
        }
        return told.toString();
    }

    private static void undoKeepsBarredOrder() {
        about("BARRED SPANS in their order");
        for (int number = 0; number < 6; number++) {
            Rainledger x = at(0, 0, 0, 1, 2, 3, 4, 5);
            for (int i = 0; i < 6; i++) {
                x.bar(0, i, i);
            }
            x.free(number);
            is(5, x.house(3));
            x.undo();
            is(6, x.house(3));
            for (int i = 0; i < 6; i++) {
                is(1, x.free(0));
                is(i, x.value(0, i, false));
            }
        }
        Rainledger y = at(0, 0, 0, 1, 2);
        for (int i = 0; i < 3; i++) {
            y.bar(0, i, i);
        }
        for (int i = 2; i >= 0; i--) {
            y.undo();
            is(i, y.value(0, i, false));
            is(i, y.house(3));
        }
    }

    private static void undoLeaves() {
        about("the OTHER ARCHIVE, QUARRELS and TYPED stay as they are");
        Rainledger x = at(0, 0, 5);
        x.lend(0, 0, 9);
        x.lend(3, 7, 1);
        x.join(false);
        x.lend(2, 2, 2);
        type(x, "-.9 ");
        x.undo();
        is(3, x.house(6));
        is(1, x.house(8));
        is("0:0=5/9", x.quarrels());
        is("-.9 ", x.typed());
        x.undo();
        is(0, x.house(1));
        is(3, x.house(6));
        is("0:0=5/9", x.quarrels());
        is(0, x.join(true));
        is(9, x.value(0, 0, true));
        is(1, x.value(3, 7, true));
        is(2, x.value(2, 2, true));
        about("what is told stays, too");
        Rainledger y = at(0, 0, 5);
        y.enough(24);
        y.leap(true);
        y.unit(2, 3, 1, 0);
        y.look();
        y.undo();
        is(24, y.enough(1));
        is(true, y.leap(false));
        is(1, y.house(9));
        type(y, "0 2000-01-01 0 1");
        y.enter(2);
        is(30, y.value(0, 0, true));
    }

    private static void toldOnce() {
        about("UNITS are 0 to 2 (all 1, 1 and 0 at first)");
        for (int unit = 0; unit <= 2; unit++) {
            Rainledger x = new Rainledger();
            type(x, "1 2000-01-01 7 -12.3");
            is(1, x.enter(unit));
            is(-123, x.value(1, 7, false));
        }
        about("a number v in a UNIT is the VALUE v * above / under + shift");
        unitOf(99, 1, 99, "10", 9999);
        unitOf(99, 1, 100, "10", VOID);
        unitOf(-99, 1, -99, "10", -9999);
        unitOf(-99, 1, -100, "10", VOID);
        unitOf(99, 1, 999, "999.9", VOID);
        unitOf(1, 99, 0, "-0.1", -1);
        unitOf(1, 99, 0, "0.1", 0);
        unitOf(1, 99, 0, "9.9", 1);
        unitOf(1, 99, 0, "9.8", 0);
        unitOf(-1, 99, 0, "9.9", -1);
        unitOf(-1, 99, 0, "10", -2);
        unitOf(0, 1, -999, "999.9", -999);
        unitOf(5, 3, 1, "0.2", 4);
        unitOf(5, 3, 1, "-0.2", -3);
        about("ENOUGH is 1 to 24 (1 at first)");
        is(1, new Rainledger().house(4));
        about("a DAY is FULL, if at least so many READINGS STAND on it");
        for (int enough = 1; enough <= 24; enough++) {
            fullDay(enough);
        }
        about("DAY SUM: their sum; DAY MEAN: their sum, divided by how many these are");
        Rainledger x = at(0, 0, 9, -1, 3);
        x.bar(0, 1, 1);
        is("0-0", x.runs(0, 0, 0, 12, 1));
        is("", x.runs(0, 0, 0, 11, 1));
        is("6", x.degrees(0, 0, 0, 0));
        is(12, x.month(0, 0, 4));
    }

    /** VOID is due, if it is no VALUE. */
    private static void unitOf(int above, int under, int shift, String number, int due) {
        Rainledger x = new Rainledger();
        x.unit(1, above, under, shift);
        type(x, "0 2000-01-01 0 " + number);
        is(due == VOID ? -9 : 1, x.enter(1));
        is(due, x.value(0, 0, true));
    }

    private static void fullDay(int enough) {
        Rainledger x = new Rainledger();
        x.row(0, 24, 1, 0, enough);
        if (enough > 1) {
            x.row(0, 48, 1, 0, enough - 1);
        }
        x.row(0, 72, 1, 0, enough);
        x.bar(0, 72, 72);
        x.enough(enough);
        is(1, x.month(0, 0, 0));
        is("1-1", x.runs(0, 0, 30, MAX, 1));
    }

    private static void keptSums() {
        about("KEPT sums: the DAYS p * 2^h to p * 2^h + 2^h - 1 (those of these that there are)");
        for (int height = 0; height <= 11; height++) {
            int wide = 1 << height;
            for (int place = 0; place < 1 << 11 - height; place += Math.max(1, (1 << 11 - height) / 3)) {
                keptIsRight(height, place, place * wide, Math.min(LAST_DAY, place * wide + wide - 1));
            }
        }
        Rainledger x = at(0, LAST_HOUR, 7);
        for (int height = 0; height <= 11; height++) {
            int last = (1 << 11 - height) - 1;
            is(7, x.kept(0, height, LAST_DAY >> height, false));
            is(LAST_DAY >> height == last ? 1 : 0, x.kept(0, height, last, true));
        }
        about("p of 0 to 2^(11 - h) - 1");
        is(0, x.kept(0, 0, 1461, true));
        is(0, x.kept(0, 0, 2047, true));
        is(0, x.kept(0, 10, 0, true));
        is(1, x.kept(0, 10, 1, true));
        noIndex(() -> x.kept(0, 0, 2048, true));
        noIndex(() -> x.kept(0, 10, 2, true));
        noIndex(() -> x.kept(0, 11, 1, true));
    }

    private static void keptIsRight(int height, int place, int first, int last) {
        Rainledger x = new Rainledger();
        if (first > LAST_DAY) {
            is(0, x.kept(2, height, place, true));
            return;
        }
        x.reading(2, first * 24, 100);
        x.reading(2, last * 24 + 23, 20);
        if (first > 0) {
            x.reading(2, first * 24 - 1, 3000);
        }
        if (last < LAST_DAY) {
            x.reading(2, last * 24 + 24, 5000);
        }
        is(120, x.kept(2, height, place, false));
        is(2, x.kept(2, height, place, true));
    }

    // ---- section 2

    private static void windowsAndDays() {
        about("CLIMATE: the mean of all READINGS that STAND on that date in all years");
        Rainledger x = new Rainledger();
        for (int year = 2000; year <= 2003; year++) {
            int day = dayOf(year, 7, 31);
            x.reading(0, day * 24, year - 2000);
            x.reading(0, day * 24 + 23, 10);
            x.reading(0, day * 24 - 1, 5000);
            x.reading(0, day * 24 + 24, 5000);
        }
        is("23/4", x.climate(0, 7, 31));
        x.bar(0, dayOf(2003, 7, 31) * 24, dayOf(2003, 7, 31) * 24);
        is("43/7", x.climate(0, 7, 31));
        leapDays();
        recordsByHours();
        runsOfDays();
        about("A MONTH is CLOSED, if at most 3 of its DAYS are not FULL");
        for (int month : new int[] {0, 1, 3, 13, 47}) {
            closedMonth(month);
        }
        about("WINDOW: so many HOURS one behind the other");
        Rainledger w = at(0, 100, 7);
        is("- 7 - - - - - -", w.slide(0, 99, 1, true));
        is("7 7 - - - - - -", w.slide(0, 99, 2, true));
        is("7 7 7 7 7 7 7 7", w.slide(0, 93, 8, false));
        is("- 7 7 7 7 7 7 7", w.slide(0, 0, 100, false));
    }

    private static void leapDays() {
        about("if leap days are told TOGETHER (not at first)");
        Rainledger x = new Rainledger();
        x.reading(0, dayOf(2000, 2, 28) * 24 + 23, 10);
        x.reading(0, dayOf(2000, 2, 29) * 24, 20);
        x.reading(0, dayOf(2000, 2, 29) * 24 + 23, 30);
        x.reading(0, dayOf(2000, 3, 1) * 24, 4000);
        x.reading(0, dayOf(2001, 2, 28) * 24 + 23, 50);
        x.reading(0, dayOf(2001, 3, 1) * 24, 6000);
        x.reading(0, dayOf(2003, 2, 28) * 24, 70);
        is("130/3", x.climate(0, 2, 28));
        is("25", x.climate(0, 2, 29));
        is("5000", x.climate(0, 3, 1));
        about("28 February has those of 29 February, too, and 29 February those of 28 February");
        x.leap(true);
        is("36", x.climate(0, 2, 28));
        is("36", x.climate(0, 2, 29));
        is("5000", x.climate(0, 3, 1));
        is("-", x.climate(0, 2, 27));
        is("-", x.climate(0, 1, 28));
        is("-", x.climate(0, 1, 29));
        is("-", x.climate(0, 3, 29));
        x.leap(false);
        is("25", x.climate(0, 2, 29));
    }

    private static void recordsByHours() {
        about("RECORDS: greater than all READINGS ahead of it (the first one is one)");
        is("7", at(0, 7, -9999).records(0, true));
        is("7", at(0, 7, 9999).records(0, false));
        is("7 8", at(0, 7, 5, 6, 6, 5, 6).records(0, true));
        is("7", at(0, 7, 5, 6, 6, 5, 6).records(0, false));
        is("7 8", at(0, 7, 6, 5, 5, 6, 5).records(0, false));
        Rainledger x = at(1, 0, -9999);
        put(x, 1, LAST_HOUR, 9999);
        put(x, 2, 0, -9999);
        put(x, 0, LAST_HOUR, 9999);
        is("0 35063", x.records(1, true));
        is("0", x.records(1, false));
        is("0", x.records(2, true));
        is("35063", x.records(0, true));
        is("-", x.records(3, true));
        x.bar(1, 0, 0);
        is("35063", x.records(1, true));
        x.bar(1, LAST_HOUR, LAST_HOUR);
        is("-", x.records(1, true));
    }

    private static void runsOfDays() {
        about("RUN: DAYS that all are FULL and have a DAY SUM of at most a bound");
        Rainledger x = series(5, 6, 5, 5, VOID, 5, 5, 5);
        is("0-0 2-3 5-7", x.runs(0, 0, LAST_DAY, 5, 1));
        is("0-3 5-7", x.runs(0, 0, LAST_DAY, 6, 1));
        is("", x.runs(0, 0, LAST_DAY, 4, 1));
        about("in the told DAYS");
        is("3-3 5-6", x.runs(0, 3, 6, 5, 1));
        is("2-3 5-5", x.runs(0, 1, 5, 5, 1));
        about("the RUNS with so many or more");
        is("5-7", x.runs(0, 0, LAST_DAY, 5, 3));
        is("2-3 5-7", x.runs(0, 0, LAST_DAY, 5, 2));
        is("", x.runs(0, 0, LAST_DAY, 5, 4));
        about("the first and the last DAY");
        Rainledger y = at(0, 23, 1);
        put(y, 0, LAST_HOUR, 1);
        put(y, 1, 0, 1);
        is("0-0 1460-1460", y.runs(0, 0, LAST_DAY, 1, 1));
        is("1460-1460", y.runs(0, 1, LAST_DAY, 1, 1));
        is("0-0", y.runs(0, 0, LAST_DAY - 1, 1, 1));
    }

    private static void closedMonth(int month) {
        Rainledger x = new Rainledger();
        int many = x.month(0, month, 5);
        int first = dayOf(2000 + month / 12, month % 12 + 1, 1);
        for (int day = 0; day < many - 4; day++) {
            x.reading(0, (first + day) * 24, 1);
        }
        is(0, x.month(0, month, 1));
        x.reading(0, (first + many - 1) * 24 + 23, 1);
        is(1, x.month(0, month, 1));
        is(many - 3, x.month(0, month, 0));
        x.bar(0, first * 24, first * 24);
        is(0, x.month(0, month, 1));
    }

    // ---- section 3

    private static void breaks() {
        about("SERIES: the DAY SUMS of all FULL DAYS");
        Rainledger x = series(1, VOID, 1, VOID, VOID, 9, 9);
        is("5", x.breaks(0, 0, 6, 1, 2));
        is("6", series(0, 1, VOID, 1, VOID, VOID, 9, 9, 0).breaks(0, 1, 7, 1, 2));
        about("a SERIES with fewer in all has no PARTING");
        for (int least = 1; least <= 4; least++) {
            is("", series(5, 5, 5, 5).breaks(0, 0, least - 1, 0, least));
            is("0", series(5, 5, 5, 5).breakCost(0, 0, least - 1, 0, least));
            if (least > 1) {
                is("-", series(5, 5, 5, 5).breaks(0, 0, least - 2, 0, least));
                is("-", series(5, 5, 5, 5).breakCost(0, 0, least - 2, 0, least));
            }
            is("-", new Rainledger().breaks(0, 0, 23, 0, least));
            is("-", new Rainledger().breakCost(0, 0, 23, 0, least));
        }
        about("PIECES of at least so many DAYS each");
        is("", series(1, 9, 9, 9, 9).breaks(0, 0, 4, 0, 3));
        is("3", series(1, 9, 9, 9, 9, 9).breaks(0, 0, 5, 0, 3));
        is("2", series(1, 9, 9, 9).breaks(0, 0, 3, 0, 2));
        is("4", series(1, 1, 1, 1, 9, 9, 9, 9).breaks(0, 0, 7, 0, 4));
        is("", series(1, 1, 1, 9, 9, 9, 9).breaks(0, 0, 6, 0, 4));
        about("Its COST: the sum of the squares, and the price for each break");
        is("99999", series(-9999, 9999).breakCost(0, 0, 1, 99999, 1));
        is("199960002", series(-9999, 9999).breakCost(0, 0, 1, 99999, 2));
        is("3", series(1, 9, 1, 9).breakCost(0, 0, 3, 1, 1));
        is("2/3", series(0, 1, 1).breakCost(0, 0, 2, 1, 1));
        about("least COST, of these the fewest breaks");
        is("", series(7, 7, 7, 7).breaks(0, 0, 3, 0, 1));
        is("", series(0, 2).breaks(0, 0, 1, 2, 1));
        is("1", series(0, 2).breaks(0, 0, 1, 1, 1));
        about("of these the earliest first break, then the earliest second one");
        is("1", series(0, 4, 8).breaks(0, 0, 2, 9, 1));
        is("1 3", series(0, 2, 4, 6, 8).breaks(0, 0, 4, 3, 1));
        // 500 stands alone; then 0 | 4 8 and 0 4 | 8 cost as much.
        is("1 2", series(500, 0, 4, 8).breaks(0, 0, 3, 10, 1));
        is("28", series(500, 0, 4, 8).breakCost(0, 0, 3, 10, 1));
        manyDays();
    }

    private static void manyDays() {
        about("to is from + 23: 24 DAYS");
        int[] sums = new int[26];
        for (int day = 0; day < 26; day++) {
            sums[day] = day % 2 == 0 ? 100 : -100;
        }
        Rainledger x = series(sums);
        is("2 3 4 5 6 7 8 9 10 11 12 13 14 15 16 17 18 19 20 21 22 23 24", x.breaks(0, 1, 24, 0, 1));
        is("23", x.breakCost(0, 1, 24, 1, 1));
        is("240000", x.breakCost(0, 1, 24, 99999, 1));
        noArgument(() -> x.breaks(0, 0, 24, 0, 1));
        noArgument(() -> x.breakCost(0, 0, 24, 0, 1));
        about("the last DAYS");
        Rainledger y = new Rainledger();
        y.reading(0, 1437 * 24, 1);
        y.reading(0, LAST_HOUR, 9);
        is("1460", y.breaks(0, 1437, LAST_DAY, 0, 1));
        is("32", y.breakCost(0, 1437, LAST_DAY, 0, 2));
    }

    // ---- section 4

    private static void fillings() {
        about("KNOWN HOURS: those of a SPAN, without the HOUR that is to be filled");
        Rainledger x = at(0, 0, 1, 2, 3, 4);
        put(x, 1, 0, 10, 20, 30, 999);
        is("40", x.fill(1, 1, 0, 3, 3));
        is("0 10", x.combination(1, 1, 0, 3, 3));
        is("0 10", x.combination(1, 1, 0, 2, 4));
        is("0 10", x.combination(1, 1, 0, 1, 9));
        is("0 10", x.combination(1, 1, 1, 2, 9));
        about("at which READINGS of the STATION and of all others STAND");
        put(x, 0, 10, 5, VOID, 7);
        put(x, 1, 10, VOID, 70, 70);
        is("0 10", x.combination(1, 1, 0, 12, 3));
        about("it is told only if there is just one such combination");
        is("-", x.combination(1, 1, 0, 0, 3));
        is("-", x.combination(1, 1, 5, 9, 3));
        is("-", x.combination(1, 1, 0, 1, 0));
        is("-", x.fill(1, 1, 0, 1, 1));
        is("-", at(0, 0, 4, 4, 4).combination(1, 1, 0, 2, 9));
        fillingsOfTwo();
        about("FILLING: all of them STAND there, otherwise there is none");
        is("50", x.fill(1, 1, 0, 2, 10));
        is("-", x.fill(1, 1, 0, 2, 11));
        x.bar(0, 10, 10);
        is("-", x.fill(1, 1, 0, 2, 10));
        about("the STATION itself need not STAND at the HOUR that is to be filled, and may");
        is("70", x.fill(1, 1, 0, 2, 12));
        x.bar(1, 12, 12);
        is("70", x.fill(1, 1, 0, 2, 12));
        longSpan();
    }

    private static void fillingsOfTwo() {
        about("two others: just one combination, if they do not go along with one another");
        Rainledger x = at(0, 0, 0, 1, 2, 3);
        put(x, 1, 0, 5, 7, 9, 11);
        put(x, 2, 0, 1, 2, 3, 5);
        is("-", x.combination(2, 3, 0, 3, 9));
        is("-", x.fill(2, 3, 0, 3, 3));
        x.right(1, 3, 12, 1);
        is("-4 -1 1", x.combination(2, 3, 0, 3, 9));
        is("-", x.combination(2, 3, 0, 2, 9));
        is("-", x.combination(2, 3, 2, 3, 9));
        Rainledger same = at(0, 0, 0, 1, 2);
        put(same, 1, 0, 0, 1, 2);
        put(same, 2, 0, 4, 5, 6);
        is("-", same.combination(2, 3, 0, 2, 9));
        is("4 1", same.combination(2, 1, 0, 2, 9));
    }

    private static void longSpan() {
        about("to is from + 999: 1000 HOURS");
        Rainledger x = at(0, 0, 1);
        put(x, 0, 999, 2, 50);
        put(x, 1, 0, 3);
        put(x, 1, 999, 5, 9999);
        is("1 2", x.combination(1, 1, 0, 999, 5));
        is("-", x.combination(1, 1, 1, 999, 5));
        is("-", x.combination(1, 1, 0, 998, 5));
        is("101", x.fill(1, 1, 0, 999, 1000));
        noArgument(() -> x.fill(1, 1, 0, 1000, 1000));
        about("the first and the last HOUR to be filled");
        is("-", x.fill(1, 1, 0, 999, 0));
        Rainledger first = at(0, 0, 1, 2, 3);
        put(first, 1, 1, 20, 30);
        is("10", first.fill(1, 1, 0, 2, 0));
        Rainledger y = at(0, LAST_HOUR - 2, 1, 2, 3);
        put(y, 1, LAST_HOUR - 2, 10, 20);
        is("30", y.fill(1, 1, LAST_HOUR - 2, LAST_HOUR, LAST_HOUR));
        is("30", y.fill(1, 1, LAST_HOUR - 999, LAST_HOUR, LAST_HOUR));
        for (int seed = 1; seed <= 30; seed++) {
            greatestFilling(seed);
        }
    }

    /** 1000 KNOWN HOURS of VALUES up to the ends, and those at the HOUR 1000: what is told has up to 37 digits. */
    private static void greatestFilling(int seed) {
        about("FILLING of the greatest numbers, seed " + seed);
        Random random = new Random(seed);
        Rainledger x = new Rainledger();
        int[][] values = new int[3][1000];
        for (int station = 0; station < 3; station++) {
            for (int hour = 0; hour < 1000; hour += 40) {
                int end = station < 2 && random.nextBoolean() ? -9999 : 9999 - random.nextInt(40);
                int step = (end < 0 ? 1 : -1) * random.nextInt(station < 2 ? 500 : 3);
                x.row(station, hour, end, step, 40);
                for (int i = 0; i < 40; i++) {
                    values[station][hour + i] = end + step * i;
                }
            }
        }
        x.reading(0, 1000, 9999);
        x.reading(1, 1000, -9999);
        BigInteger[][] sums = sumsOf(values);
        BigInteger under = determinant(sums[0], sums[1], sums[2]);
        BigInteger c0 = determinant(sums[3], sums[1], sums[2]);
        BigInteger c1 = determinant(sums[0], sums[3], sums[2]);
        BigInteger c2 = determinant(sums[0], sums[1], sums[3]);
        is(fraction(c0, under) + " " + fraction(c1, under) + " " + fraction(c2, under), x.combination(2, 3, 0, 999, 1000));
        BigInteger filled = c0.add(c1.multiply(BigInteger.valueOf(9999))).subtract(c2.multiply(BigInteger.valueOf(9999)));
        is(fraction(filled, under), x.fill(2, 3, 0, 999, 1000));
    }

    /** The columns of the equations for 1, x, y and what is due, by sums over all KNOWN HOURS. */
    private static BigInteger[][] sumsOf(int[][] values) {
        BigInteger[][] sums = new BigInteger[4][3];
        for (int column = 0; column < 4; column++) {
            for (int row = 0; row < 3; row++) {
                long sum = 0;
                for (int hour = 0; hour < 1000; hour++) {
                    sum += (column == 0 ? 1L : values[column - 1][hour]) * (row == 0 ? 1L : values[row - 1][hour]);
                }
                sums[column][row] = BigInteger.valueOf(sum);
            }
        }
        return sums;
    }

    private static BigInteger determinant(BigInteger[] a, BigInteger[] b, BigInteger[] c) {
        BigInteger one = a[0].multiply(b[1].multiply(c[2]).subtract(b[2].multiply(c[1])));
        BigInteger two = b[0].multiply(a[1].multiply(c[2]).subtract(a[2].multiply(c[1])));
        BigInteger three = c[0].multiply(a[1].multiply(b[2]).subtract(a[2].multiply(b[1])));
        return one.subtract(two).add(three);
    }

    private static String fraction(BigInteger above, BigInteger under) {
        BigInteger divisor = above.gcd(under).multiply(BigInteger.valueOf(under.signum()));
        BigInteger whole = under.divide(divisor);
        return above.divide(divisor) + (whole.equals(BigInteger.ONE) ? "" : "/" + whole);
    }

    // ---- section 5

    private static void otherArchive() {
        about("The OTHER ARCHIVE has READINGS, none at first");
        is(0, new Rainledger().house(6));
        about("to join two that are empty");
        Rainledger empty = new Rainledger();
        is(0, empty.join(true));
        is(0, empty.house(1));
        is(0, empty.house(6));
        is(1, empty.house(0));
        is(1, empty.house(7));
        about("at each place where one ARCHIVE alone has a READING THERE, that is THERE");
        Rainledger x = at(0, 0, -9999);
        x.lend(3, LAST_HOUR, -9999);
        is(0, x.join(false));
        is(2, x.house(1));
        is(2, x.house(6));
        is(-9999, x.value(0, 0, true));
        is(-9999, x.value(3, LAST_HOUR, true));
        about("with both and the same VALUE it stays as it is");
        x.right(0, 0, -9999, 4);
        is(0, x.join(true));
        is(4, x.reason(0, 0));
        is(0, x.house(8));
        unlike();
        about("BARRED SPANS of this house stay, and have nothing to do with that");
        Rainledger y = at(0, 0, 5, 6);
        y.bar(0, 0, 9);
        y.lend(0, 0, 7);
        y.lend(0, 5, 8);
        is(1, y.join(true));
        is("0:0=5/7", y.quarrels());
        is(1, y.house(3));
        is(0, y.house(2));
        is(3, y.house(1));
        is(3, y.house(6));
        is(3, y.free(0));
        is("7 6 - - - 8 - -", y.slide(0, 0, 1, true));
        lastQuarrels();
    }

    private static void unlike() {
        about("with unlike ones there is a QUARREL, and the greater VALUE is THERE");
        Rainledger x = at(0, 0, 5, 5, 5);
        for (int hour = 0; hour < 3; hour++) {
            x.right(0, hour, 5, 3);
            x.lend(0, hour, 4 + hour);
        }
        is(2, x.join(true));
        is("0:0=5/4 0:2=5/6", x.quarrels());
        is("5 5 6 - - - - -", x.slide(0, 0, 1, true));
        about("What becomes another one has the REASON 0 (with the greater VALUE here already it stays as it is)");
        is(3, x.reason(0, 0));
        is(3, x.reason(0, 1));
        is(0, x.reason(0, 2));
        about("The OTHER ARCHIVE has the same VALUES then");
        x.withdraw(0, 0);
        x.right(0, 1, -9, 1);
        is(1, x.join(true));
        is("0:1=-9/5", x.quarrels());
        is("5 5 6 - - - - -", x.slide(0, 0, 1, true));
        about("whichever comes first, it is the same");
        for (int turn = 0; turn < 2; turn++) {
            Rainledger y = at(2, 9, 1, 2);
            y.lend(2, 9, 2);
            y.lend(2, 10, 1);
            is(2, y.join(turn == 0));
            is("2 2 - - - - - -", y.slide(2, 9, 1, true));
        }
    }

    private static void lastQuarrels() {
        about("QUARRELS are those of the last joining, by STATION, then by HOUR");
        Rainledger x = new Rainledger();
        int[][] places = {{3, 0}, {0, LAST_HOUR}, {1, 7}, {0, 0}, {3, LAST_HOUR}, {2, 100}, {1, 70}};
        for (int[] place : places) {
            x.reading(place[0], place[1], 1);
            x.lend(place[0], place[1], -1);
        }
        is(7, x.join(true));
        is("0:0=1/-1 0:35063=1/-1 1:7=1/-1 1:70=1/-1 2:100=1/-1 3:0=1/-1 3:35063=1/-1", x.quarrels());
        about("(with the VALUES as they were ahead of it)");
        x.lend(2, 100, 9999);
        x.right(2, 100, -9999, 1);
        is(1, x.join(true));
        is("2:100=-9999/9999", x.quarrels());
        x.right(2, 100, 0, 1);
        is("2:100=-9999/9999", x.quarrels());
        x.undo();
        is(0, x.join(true));
        is("", x.quarrels());
        is(0, x.house(8));
    }

    private static void lines() {
        about("LINE: the date as year, month, day (four, two and two digits), the hour of the DAY (two digits)");
        for (int first = 0; first <= LAST_DAY; first += 40) {
            linesAreRead(first, Math.min(LAST_DAY, first + 39));
        }
        about("the VALUE: \"-\", if it is below 0, its size / 10, \".\", its size MOD 10");
        String[] due = {"0.0", "0.1", "-0.1", "0.9", "-0.9", "1.0", "-1.0", "9.9", "10.0", "-10.0", "99.9", "100.0", "999.9", "-999.9", "-0.5", "12.0"};
        int[] values = {0, 1, -1, 9, -9, 10, -10, 99, 100, -100, 999, 1000, 9999, -9999, -5, 120};
        for (int i = 0; i < values.length; i++) {
            is("0 2000-01-01 00 " + due[i], at(0, 0, values[i]).line(0));
        }
        about("by STATIONS, then by HOURS; \"!\", if there are not so many");
        Rainledger y = at(3, 0, 1);
        put(y, 0, LAST_HOUR, 2);
        put(y, 0, 5, 3);
        is("0 2000-01-01 05 0.3", y.line(0));
        is("0 2003-12-31 23 0.2", y.line(1));
        is("3 2000-01-01 00 0.1", y.line(2));
        is("!", y.line(3));
        is("!", new Rainledger().line(0));
    }

    private static void linesAreRead(int first, int last) {
        Rainledger x = new Rainledger();
        for (int day = first; day <= last; day++) {
            int hour = day % 24;
            String due = day % 4 + " " + LocalDate.of(2000, 1, 1).plusDays(day) + (hour < 10 ? " 0" : " ") + hour + " 0.7";
            is(due, at(day % 4, day * 24 + hour, 7).line(0));
            type(x, due);
            is(NONE, x.fault());
            x.enter(0);
            is(7, x.value(day % 4, day * 24 + hour, false));
        }
    }

    private static void typing() {
        about("TYPED is a row of at most 30 SIGNS");
        Rainledger x = new Rainledger();
        for (int many = 6; many <= 24; many += 6) {
            is(many, x.say(0, 1, 2, 3, 4, 5));
        }
        is(29, x.say(6, 7, 8, 9, 10, -1));
        noState(() -> x.say(11, 12, -1, -1, -1, -1));
        is(30, x.say(11, -1, -1, -1, -1, -1));
        noState(() -> x.say(12, -1, -1, -1, -1, -1));
        is("012345012345012345012345" + "6789-.", x.typed());
        about("longer than 30 at some moment");
        noState(() -> x.say(0, 13, -1, -1, -1, -1));
        noState(() -> x.say(-1, -1, -1, -1, 0, 14));
        noState(() -> x.say(13, 0, 0, -1, -1, -1));
        is(30, x.say(13, 0, 13, 13, 1, 2));
        is(1, x.say(14, 0, -1, -1, -1, -1));
        about("SIGNS 0 to 12; none at first");
        is("", new Rainledger().typed());
        for (int sign = 0; sign <= 12; sign++) {
            Rainledger one = new Rainledger();
            is(1, one.say(-1, -1, sign, -1, -1, -1));
            is("0123456789-. ".substring(sign, sign + 1), one.typed());
        }
        about("13 for the last one going, also of none; 14 for all going; NONE for nothing");
        Rainledger y = new Rainledger();
        is(0, y.say(13, 14, -1, 13, 13, 14));
        is(1, y.say(13, 5, -1, 13, 13, 7));
        is("7", y.typed());
        is(0, y.say(14, -1, -1, -1, -1, -1));
        is(0, y.say(1, 2, 3, 13, 13, 13));
        is(2, y.say(1, 2, 14, 3, 4, -1));
        is("34", y.typed());
    }

    private static void faults() {
        about("WORDS are what stands between blanks (one or more, also ahead of all and behind all, are no WORD)");
        is(NONE, faultOf("0 2000-01-01 0 1"));
        is(NONE, faultOf("  0 2000-01-01 0 1"));
        is(NONE, faultOf("0 2000-01-01 0 1  "));
        is(NONE, faultOf("0  2000-01-01   0    1"));
        is(NONE, faultOf(" 0 2000-01-01 00 -999.9       "));
        is(0, faultOf("                              "));
        about("the first one that is not right (or missing)");
        is(0, faultOf(""));
        is(0, faultOf("4 2000-13-01 99 ."));
        is(1, faultOf("0"));
        is(1, faultOf("0 2000-13-01 99 ."));
        is(2, faultOf("0 2000-12-01"));
        is(2, faultOf("0 2000-12-01 99 ."));
        is(3, faultOf("0 2000-12-01 9"));
        is(3, faultOf("0 2000-12-01 9 . 5 5"));
        about("4 if these are right, but there are more than four");
        is(4, faultOf("0 2000-12-01 9 9 9"));
        is(4, faultOf("0 2000-12-01 9 9 9 9 9 9 9 9"));
        about("0 a digit of 0 to 3");
        for (int digit = 0; digit <= 9; digit++) {
            is(digit <= 3 ? NONE : 0, faultOf(digit + " 2000-01-01 0 1"));
        }
        is(0, faultOf("01 2000-01-01 0 1"));
        is(0, faultOf("-1 2000-01-01 0 1"));
        is(0, faultOf("-0 2000-01-01 0 1"));
        is(0, faultOf(". 2000-01-01 0 1"));
        is(0, faultOf("1. 2000-01-01 0 1"));
        datesThatAre();
        datesThatAreNot();
        about("2 one or two digits, 0 to 23");
        for (int hour = 0; hour <= 99; hour++) {
            is(hour <= 23 ? NONE : 2, faultOf("0 2000-01-01 " + hour + " 1"));
        }
        is(NONE, faultOf("0 2000-01-01 00 1"));
        is(NONE, faultOf("0 2000-01-01 09 1"));
        is(2, faultOf("0 2000-01-01 000 1"));
        is(2, faultOf("0 2000-01-01 009 1"));
        is(2, faultOf("0 2000-01-01 -1 1"));
        is(2, faultOf("0 2000-01-01 -0 1"));
        is(2, faultOf("0 2000-01-01 . 1"));
        is(2, faultOf("0 2000-01-01 1. 1"));
        is(2, faultOf("0 2000-01-01 .1 1"));
        is(2, faultOf("0 2000-01-01 2- 1"));
        numbersThatAre();
        numbersThatAreNot();
    }

    private static void datesThatAre() {
        about("1 ten SIGNS, a date from 2000 to 2003: the last of each month, and the first that is none");
        for (int month = 0; month < 48; month++) {
            LocalDate first = LocalDate.of(2000 + month / 12, month % 12 + 1, 1);
            String start = first.toString().substring(0, 8);
            is(NONE, faultOf("0 " + start + "01 0 1"));
            is(NONE, faultOf("0 " + start + first.lengthOfMonth() + " 0 1"));
            is(1, faultOf("0 " + start + (first.lengthOfMonth() + 1) + " 0 1"));
            is(1, faultOf("0 " + start + "00 0 1"));
        }
    }

    private static void datesThatAreNot() {
        about("1 ten SIGNS, four digits, \"-\", two, \"-\", two, a date from 2000 to 2003");
        String[] wrong = {"1999-12-31", "2004-01-01", "0000-01-01", "9999-01-01", "2000-00-01", "2000-13-01", "2000-99-99",
            "2001-02-29", "2002-02-29", "2003-02-29", "2000-02-30", "2000-01-1", "2000-1-01", "200-01-01", "2000-01-001",
            "02000-01-01", "2000--1-01", "2000-01--1", "-200-01-01", "2000.01.01", "2000-01.01", "2000.01-01", "20000101",
            "2000-01-0.", "2000-0.-01", "200.-01-01", "2000001-01", "2000-01001", "2000-01-01-", "-2000-01-01", "-", "."};
        for (String date : wrong) {
            is(1, faultOf("0 " + date + " 0 1"));
        }
    }

    private static void numbersThatAre() {
        about("3 \"-\" or not, one to three digits, and \".\" with one digit behind, or neither; in tenths");
        String[] right = {"0", "-0", "0.0", "-0.0", "5", "-5", "12", "-0.5", "007", "-007.7", "999", "-999", "999.9", "-999.9", "00.1", "10"};
        int[] due = {0, 0, 0, 0, 50, -50, 120, -5, 70, -77, 9990, -9990, 9999, -9999, 1, 100};
        for (int i = 0; i < right.length; i++) {
            Rainledger x = new Rainledger();
            type(x, "3 2003-12-31 23 " + right[i]);
            is(NONE, x.fault());
            is(1, x.enter(0));
            is(due[i], x.value(3, LAST_HOUR, false));
        }
    }

    private static void numbersThatAreNot() {
        String[] wrong = {"-", ".", "-.", ".5", "-.5", "5.", "-5.", "1000", "-1000", "0000", "1000.0", "-1000.0", "0000.1", "1.23",
            "-1.23", "1.2.3", "1..2", "--1", "1-", "1-2", "1.-", "1.-2", "-1-", "5-.1", ".-1", "..", "--", "-.-"};
        for (String number : wrong) {
            is(3, faultOf("3 2003-12-31 23 " + number));
        }
    }

    // ---- what the promises answer where there is nothing, too much, or all

    private static void promisesOfActs() {
        about("3: One ACT, also if none comes");
        Rainledger x = at(0, 0, 7);
        is(0, x.row(0, 0, 1, 1, 1));
        is(2, x.house(0));
        is(2, x.house(7));
        is(1, x.undo());
        is(7, x.value(0, 0, false));
        about("3: 1 to 48 HOURS, steps -500 to 500");
        Rainledger y = new Rainledger();
        is(1, y.row(0, 0, -9999, 500, 1));
        is(40, y.row(1, 0, -9999, 500, 40));
        is(9501, y.value(1, 39, false));
        is(40, y.row(2, 0, 9999, -500, 40));
        is(-9501, y.value(2, 39, false));
        is(48, y.row(3, LAST_HOUR - 47, -9999, 425, 48));
        is(-9999 + 425 * 47, y.value(3, LAST_HOUR, false));
        is(VOID, y.value(3, LAST_HOUR - 48, false));
        about("3: where one is THERE, it stays (BARRED, too)");
        Rainledger z = at(0, 1, 70, VOID, 90);
        z.bar(0, 3, 3);
        is(3, z.row(0, 0, 1, 1, 5));
        is("1 70 3 - 5 - - -", z.slide(0, 0, 1, true));
        is(90, z.value(0, 3, true));
        about("6: how many READINGS do not STAND by that any more: those of an older SPAN did not");
        Rainledger bars = at(0, 0, 1, 1, 1, 1);
        is(2, bars.bar(0, 0, 1));
        is(1, bars.bar(0, 1, 2));
        is(1, bars.bar(0, 0, LAST_HOUR));
        is(0, bars.bar(0, 0, LAST_HOUR));
        is(0, bars.bar(0, 4, LAST_HOUR));
        about("7: how many READINGS STAND by that again: those of another SPAN do not");
        is(0, bars.free(4));
        is(0, bars.free(3));
        is(1, bars.free(2));
        is(1, bars.free(0));
        is(2, bars.free(0));
        about("9: in the place of one that it has there, no ACT");
        Rainledger lent = new Rainledger();
        is(1, lent.lend(0, 0, 9));
        is(1, lent.lend(0, 0, -9));
        is(0, lent.house(0));
        noState(() -> lent.undo());
        lent.join(true);
        is(-9, lent.value(0, 0, false));
        about("11: also if that is no VALUE");
        is(9900 + 999, lent.unit(0, 99, 1, 999));
        is(-9900 - 999, lent.unit(0, -99, 1, -999));
        about("16: how many were REFUSED ever, with this");
        for (int many = 1; many <= 40; many++) {
            is(many, lent.look());
        }
        is(40, lent.house(9));
        promiseOfEnter();
    }

    private static void promiseOfEnter() {
        about("15: -2 less the FAULT, nothing is changed");
        String[] wrong = {"", "0", "0 2000-01-01", "0 2000-01-01 0", "0 2000-01-01 0 1 1"};
        for (int fault = 0; fault <= 4; fault++) {
            Rainledger x = new Rainledger();
            type(x, wrong[fault]);
            is(-2 - fault, x.enter(fault % 3));
            is(wrong[fault], x.typed());
            is(0, x.house(0));
            is(0, x.house(1));
        }
        about("15: -9, if it is no VALUE by the UNIT, nothing is changed");
        Rainledger x = new Rainledger();
        x.unit(0, 2, 1, 1);
        type(x, "0 2000-01-01 0 499.9");
        is(1, x.enter(0));
        is(9999, x.value(0, 0, false));
        x.unit(0, 2, 1, 0);
        type(x, "0 2000-01-01 0 500.0");
        is(-9, x.enter(0));
        is("0 2000-01-01 0 500.0", x.typed());
        is(9999, x.value(0, 0, false));
        is(0, x.reason(0, 0));
        is(1, x.house(0));
        about("15: If a READING is THERE (BARRED, too), it is put right with the REASON 1; either way TYPED is empty then");
        x.right(0, 0, 5, 4);
        x.bar(0, 0, 0);
        type(x, "0 2000-01-01 0 -2.5");
        is(4, x.enter(0));
        is("", x.typed());
        is(1, x.reason(0, 0));
        is(-50, x.value(0, 0, true));
        is(VOID, x.value(0, 0, false));
        is(1, x.house(1));
        type(x, "0 2000-01-01 1 -2.5");
        is(5, x.enter(1));
        is("", x.typed());
        is(0, x.reason(0, 1));
        is(0, x.fault());
    }

    private static void promisesOfReadings() {
        about("17: VOID without one");
        Rainledger x = at(0, 5, 1);
        is(VOID, x.value(0, 4, true));
        is(VOID, x.value(0, 6, false));
        about("18: behind the ACT with that number (0: ahead of all)");
        is(VOID, x.was(0, 5, 0));
        is(1, x.was(0, 5, 1));
        is(VOID, new Rainledger().was(0, 0, 0));
        noArgument(() -> new Rainledger().was(0, 0, 1));
        about("18: what STOOD");
        x.bar(0, 5, 5);
        x.withdraw(0, 5);
        x.free(0);
        is(VOID, x.was(0, 5, 2));
        is(VOID, x.was(0, 5, 3));
        is(VOID, x.was(0, 5, 4));
        x.undo();
        x.undo();
        x.free(0);
        is(1, x.was(0, 5, 3));
        is(VOID, x.was(0, 5, 2));
        is(1, x.was(0, 5, 1));
        about("19: of the READING that is THERE (BARRED, too); NONE without one");
        is(0, x.reason(0, 5));
        is(NONE, x.reason(0, 4));
        is(NONE, x.reason(1, 5));
        x.bar(0, 0, 9);
        is(0, x.reason(0, 5));
        about("23: \"\" without any");
        is("", new Rainledger().quarrels());
    }

    private static void promisesOfSpans() {
        about("24: nothing in the SPAN");
        Rainledger x = at(1, 10, 7);
        int[] none = {0, 0, VOID, VOID, 10, 10, 0};
        int[] one = {1, 7, 7, 7, 0, 0, 0};
        int[] around = {1, 7, 7, 7, 2, 1, 0};
        int[] hidden = {0, 0, VOID, VOID, 3, 3, 1};
        for (int what = 0; what <= 6; what++) {
            is(none[what], x.ofSpan(1, 0, 9, what));
            is(one[what], x.ofSpan(1, 10, 10, what));
            is(around[what], x.ofSpan(1, 9, 11, what));
        }
        about("24: the longest row of HOURS without one, at the ends of the SPAN");
        is(35052, x.ofSpan(1, 10, 35062, 5));
        is(35053, x.ofSpan(1, 0, LAST_HOUR, 5));
        is(35064, x.ofSpan(0, 0, LAST_HOUR, 5));
        is(35064, x.ofSpan(0, 0, LAST_HOUR, 4));
        x.bar(1, 0, LAST_HOUR);
        about("24: how many BARRED ones are THERE");
        for (int what = 0; what <= 6; what++) {
            is(hidden[what], x.ofSpan(1, 9, 11, what));
        }
        is(0, x.ofSpan(1, 11, LAST_HOUR, 6));
        about("25: \"-\" without any");
        is("-", x.mean(1, 0, LAST_HOUR));
        about("26: less than that");
        Rainledger y = at(0, 0, -9999, 5, 5, 9999);
        is(0, y.rank(0, 0, 3, -9999));
        is(1, y.rank(0, 0, 3, -9998));
        is(1, y.rank(0, 0, 3, 5));
        is(3, y.rank(0, 0, 3, 6));
        is(3, y.rank(0, 0, 3, 9999));
        is(4, y.rank(0, 0, 3, 10000));
        is(0, y.rank(1, 0, 3, MAX));
        about("27: VOID, if there is none");
        is(9999, y.ranked(0, 0, 3, 3));
        is(VOID, y.ranked(0, 0, 3, 4));
        is(VOID, y.ranked(1, 0, LAST_HOUR, 0));
        about("28: HOURS beyond the last one have none");
        Rainledger z = at(0, LAST_HOUR - 1, 4, 3);
        put(z, 1, 0, 9, 9, 9, 9, 9, 9, 9, 9);
        is("4 3 - - - - - -", z.slide(0, LAST_HOUR - 1, 1, false));
        is("3 3 - - - - - -", z.slide(0, LAST_HOUR - 1, 100, false));
        is("3 - - - - - - -", z.slide(0, LAST_HOUR, 100, true));
        is("- - - - - 4 4 3", z.slide(0, LAST_HOUR - 7, 2, true));
        promiseOfTop();
    }

    private static void promiseOfTop() {
        about("29: or all, if there are fewer");
        Rainledger x = at(0, 0, 1, 2, 3, 4, 5, 6, 7);
        is("7@6/0", x.top(1, 0, 6, 1));
        is("7@6/0 6@5/0 5@4/0 4@3/0 3@2/0 2@1/0", x.top(1, 0, 6, 6));
        is("3@2/0 2@1/0 1@0/0", x.top(1, 0, 2, 6));
        is("3@2/0 2@1/0 1@0/0", x.top(1, 0, 2, 3));
        is("", x.top(0, 0, LAST_HOUR, 6));
        is("", x.top(14, 0, LAST_HOUR, 6));
        about("29: by VALUE, the greatest first, then by HOUR, then by STATION");
        Rainledger y = new Rainledger();
        for (int station = 3; station >= 0; station--) {
            put(y, station, 0, 5, 5);
        }
        is("5@0/0 5@0/1 5@0/2 5@0/3 5@1/0 5@1/1", y.top(15, 0, 1, 6));
        is("5@0/1 5@0/3 5@1/1 5@1/3", y.top(10, 0, 1, 6));
        y.reading(2, LAST_HOUR, 6);
        is("6@35063/2 5@0/0", y.top(15, 0, LAST_HOUR, 2));
        is("-9999@0/3", at(3, 0, -9999).top(8, 0, 0, 6));
    }

    private static void promisesOfDays() {
        about("31: \"-\" without a READING; 29 February, too");
        is("-", new Rainledger().climate(0, 2, 29));
        is("-", new Rainledger().climate(3, 12, 31));
        is("-", at(0, 24, 5).climate(0, 1, 1));
        is("5", at(0, 24, 5).climate(0, 1, 2));
        about("34: that or less; NONE without one");
        Rainledger x = at(0, 24, 5);
        is(1, x.frost(0, 2000, 5, true));
        is(NONE, x.frost(0, 2000, 4, true));
        is(NONE, x.frost(0, 2001, 9999, true));
        about("35: with a DAY MEAN above that");
        Rainledger y = at(0, 0, 5, 6);
        is("1/2", y.degrees(0, 0, 0, 5));
        is("0", y.degrees(0, 0, 0, 6));
        is("0", at(0, 0, 5).degrees(0, 0, 0, 5));
        is("1", at(0, 0, 5).degrees(0, 0, 0, 4));
        is("0", new Rainledger().degrees(0, 0, LAST_DAY, -9999));
        y.enough(3);
        is("0", y.degrees(0, 0, 0, 0));
        about("36: VOID without any; it may be more than a VALUE");
        is(VOID, new Rainledger().month(0, 0, 4));
        Rainledger z = new Rainledger();
        z.row(0, 0, 9999, 0, 24);
        is(24 * 9999, z.month(0, 0, 4));
        z.row(1, 0, -9999, 0, 24);
        is(-24 * 9999, z.month(1, 0, 4));
        z.reading(1, 24, -9998);
        is(-9998, z.month(1, 0, 4));
        about("37: \"-\", if one of both has none");
        Rainledger both = at(0, 0, 5);
        is("-", both.beside(0, 0, 1));
        is("-", both.beside(0, 1, 0));
        is("-", both.beside(0, 1, 2));
        is("0", both.beside(0, 0, 0));
        put(both, 0, LAST_HOUR, -5);
        is("10", both.beside(0, 0, 47));
        is("-10", both.beside(0, 47, 0));
    }

    private static void promisesOfComparisons() {
        about("42: by more than the bound");
        Rainledger x = at(0, 0, 10);
        put(x, 1, 0, 13);
        put(x, 2, 0, 20);
        is(0, x.slip(0, 0, 2, 3));
        is(1, x.slip(0, 0, 2, 2));
        is(1, x.slip(1, 0, 1, 2));
        is(0, x.slip(1, 0, 1, 3));
        is(1, x.slip(0, 0, 6, 6));
        is(0, x.slip(0, 0, 6, 7));
        is(NONE, at(0, 0, 5).slip(0, 0, 2, 0));
        about("42: those of the others that STAND; NONE, if it does not STAND, or none of the others does");
        is(0, x.slip(0, 0, 10, 3));
        is(NONE, x.slip(0, 0, 8, 0));
        is(NONE, x.slip(0, 0, 0, 0));
        is(NONE, x.slip(3, 0, 7, 0));
        is(NONE, x.slip(0, 1, 14, 0));
        x.bar(0, 0, 0);
        is(NONE, x.slip(0, 0, 6, 0));
        is(1, x.slip(1, 0, 5, 6));
        is(0, x.slip(1, 0, 5, 7));
        about("42: each of the others counts");
        for (int station = 0; station < 4; station++) {
            slipByEachOther(station);
        }
        about("43: 2 to 8 parts, each with its first and its last VALUE");
        for (int parts = 2; parts <= 8; parts++) {
            roseOf(parts);
        }
        about("44: of all pairs, less and greater, like ones not at all");
        Rainledger y = at(0, 0, 5, 5);
        put(y, 1, 0, 5, 6, 4);
        is(0, y.pairs(0, 1, 0, 9));
        is(0, y.pairs(0, 1, 0, 0));
        is(2, y.pairs(0, 1, 0, 1));
        is(0, y.pairs(0, 2, 0, 9));
        is(0, y.pairs(2, 0, 0, 9));
        is(0, y.pairs(1, 1, 0, 9));
        about("44: each with each, also of unlike HOURS");
        Rainledger far = at(0, 0, 1);
        put(far, 3, LAST_HOUR, 2);
        is(1, far.pairs(0, 3, 0, LAST_HOUR));
        is(-1, far.pairs(3, 0, 0, LAST_HOUR));
        is(0, far.pairs(0, 3, 0, LAST_HOUR - 1));
        is(0, far.pairs(0, 3, 1, LAST_HOUR));
    }

    private static void slipByEachOther(int station) {
        Rainledger x = at(station, 5, 0);
        for (int other = 0; other < 4; other++) {
            if (other != station) {
                is(NONE, x.slip(station, 5, 1 << other, 0));
                x.reading(other, 5, 10 + other);
                is(1, x.slip(station, 5, 1 << other, 9 + other));
                is(0, x.slip(station, 5, 1 << other, 10 + other));
            }
        }
        // The mean of all three is (36 - station) / 3.
        is(1, x.slip(station, 5, 15 - (1 << station), (36 - station - 1) / 3));
        is(0, x.slip(station, 5, 15 - (1 << station), (36 - station + 2) / 3));
    }

    private static void roseOf(int parts) {
        for (int part = 0; part < parts; part++) {
            // The first VALUE with VALUE * parts / 360 = part.
            int first = (part * 360 + parts - 1) / parts;
            int last = ((part + 1) * 360 + parts - 1) / parts - 1;
            StringBuilder due = new StringBuilder();
            for (int k = 0; k < parts; k++) {
                due.append(k > 0 ? " " : "").append(k == part ? 4 : 0);
            }
            is(due.toString(), at(0, 0, first, last, first - 360, last + 360).rose(0, 0, 3, parts));
        }
    }

    // ---- the life of an object

    private static void life() {
        about("An object is used for at most 512 calls: 510 rows of 48, and two that ask");
        Rainledger x = new Rainledger();
        int sum = 0;
        for (int nth = 0; nth < 510; nth++) {
            is(48, x.row(nth % 4, nth / 4 * 48, nth, 1, 48));
            sum += nth % 4 == 3 ? 48 * nth + 48 * 47 / 2 : 0;
        }
        is(510, x.house(0));
        is(sum, x.ofSpan(3, 0, LAST_HOUR, 1));
        about("512 ACTS");
        Rainledger y = new Rainledger();
        y.reading(0, 0, 0);
        for (int nth = 2; nth <= 511; nth++) {
            y.right(0, 0, nth, 1);
        }
        is(511, y.was(0, 0, 511));
        Rainledger z = new Rainledger();
        for (int nth = 1; nth <= 512; nth++) {
            is(nth, z.reading(nth % 4, nth, nth));
        }
        about("512 that are lent, and joined");
        Rainledger lent = new Rainledger();
        for (int nth = 1; nth <= 510; nth++) {
            is(nth, lent.lend(nth % 4, nth, nth));
        }
        is(0, lent.join(true));
        is(510, lent.house(1));
        about("a whole archive is sound");
        Rainledger full = new Rainledger();
        for (int nth = 0; nth < 504; nth++) {
            full.row(nth % 4, (nth / 4) * 277, nth % 2 == 0 ? nth : -nth, nth % 21 - 10, 48);
        }
        is(true, full.isSound());
        is(full.digest(), full.digest());
    }
}
