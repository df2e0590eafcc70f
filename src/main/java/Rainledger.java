import java.util.ArrayList;
import java.util.Arrays;

/** An archive of weather. ../shared/DOC.md says what each call does, under its numbered promises. */
public final class Rainledger {
    private static final int NONE = -1;
    private static final int VOID = -10000;
    private static final int GREATEST_VALUE = 9999;
    private static final int STATIONS = 4;
    private static final int ALL_STATIONS = 15;
    private static final int DAY_HOURS = 24;
    private static final int DAYS = 1461;
    private static final int HOURS = 35064;
    private static final int MONTHS = 48;
    private static final int YEAR_MONTHS = 12;
    private static final int YEARS = 4;
    private static final int FIRST_YEAR = 2000;
    private static final int FEBRUARY = 2;
    private static final int LEAP_DAY = 29;
    private static final int TOP_HEIGHT = 11;
    private static final int MOST_BARRED = 6;
    private static final int MOST_STEPS = 8;
    private static final int MOST_TYPED = 30;
    private static final int MOST_IN_ROW = 48;
    private static final int MOST_SERIES = 24;
    private static final int MOST_KNOWN = 1000;
    private static final int UNITS = 3;
    private static final int WINDOWS = 8;
    private static final int CIRCLE = 360;
    private static final int OPEN_DAYS = 3;
    private static final int SOUND_LINES = 20;
    private static final int WORDS = 4;
    private static final int SIGN_BACK = 13;
    private static final int SIGN_CLEAR = 14;
    private static final int RIGHT_BY_TYPING = 1;
    private static final int NO_VALUE_TYPED = -9;
    private static final String SIGNS = "0123456789-. ";
    /** An object is used for so many calls, thus it never has more ACTS. */
    private static final int LIFE = 512;
    /** No call makes more than 48 changes that were not lent before, so no list is ever longer. */
    private static final int ROOM = LIFE * MOST_IN_ROW;
    private static final int FIRST_ROOM = 64;
    /** Every number of 1 to 24 divides this one, so DAY MEANS have it as a common number under. */
    private static final long COMMON_UNDER = 5354228880L;
    private static final long HALF_MASK = 0xFFFFFFFFL;
    private static final long TOP_BIT = 1L << 63;
    private static final int BIG_BITS = 128;
    private static final int BIG_DIGITS = 40;
    private static final int MANY_TURNS = 1000000;
    /** The first DAY of each MONTH, and the one behind all. */
    private static final int[] MONTH_STARTS = {
        0, 31, 60, 91, 121, 152, 182, 213, 244, 274, 305, 335,
        366, 397, 425, 456, 486, 517, 547, 578, 609, 639, 670, 700,
        731, 762, 790, 821, 851, 882, 912, 943, 974, 1004, 1035, 1065,
        1096, 1127, 1155, 1186, 1216, 1247, 1277, 1308, 1339, 1369, 1400, 1430,
        1461
    };

    private final Table readings = new Table();
    private final Table otherArchive = new Table();
    /** What was at each changed place ahead of the change, one ACT behind the other. */
    private final Table changes = new Table();
    private final Table quarrelRows = new Table();
    /** Scratch rows: full days, or the greatest readings. */
    private final Table sheet = new Table();
    private final ArrayList<Span> barred = new ArrayList<Span>();
    private final ArrayList<Act> acts = new ArrayList<Act>();
    private int steps;
    private final int[] units = {1, 1, 0, 1, 1, 0, 1, 1, 0};
    private int enoughReadings = 1;
    private boolean areTogether;
    private final StringBuilder signs = new StringBuilder();
    private int refused;
    /** One text for all answers, since what a run makes is counted. */
    private final StringBuilder text = new StringBuilder();
    private final Tally tally = new Tally();
    private final Row values = new Row();
    private final LineReader reader = new LineReader();
    private final Quotient quotient = new Quotient();
    private final Fitting fitting = new Fitting();
    private final Parting parting = new Parting();

    public Rainledger() {
    }

    // ---- acts

    public int reading(int station, int hour, int value)
            throws IndexOutOfBoundsException, IllegalArgumentException, IllegalStateException {
        checkStation(station);
        checkHour(hour);
        checkValue(value);
        int place = placeOf(station, hour);
        if (readings.valueOf(place) != VOID) {
            throw new IllegalStateException("a READING is THERE");
        }
        if (startAct(null, NONE)) {
            change(place, value, 0);
        }
        return acts.size();
    }

    public int row(int station, int hour, int value, int step, int many)
            throws IndexOutOfBoundsException, IllegalArgumentException {
        checkStation(station);
        checkHour(hour);
        if (many < 1 || many > MOST_IN_ROW || step < -500 || step > 500) {
            throw new IllegalArgumentException("many or step is not in its bounds");
        }
        checkValue(value);
        checkValue(value + step * (many - 1));
        if (hour + many > HOURS) {
            throw new IllegalArgumentException("the last HOUR is none");
        }
        int came = 0;
        boolean isOpen = startAct(null, NONE);
        for (int nth = 0; nth < many && isOpen; nth++) {
            int place = placeOf(station, hour) + nth;
            if (readings.valueOf(place) == VOID) {
                change(place, value + step * nth, 0);
                came++;
            }
        }
        return came;
    }

    public int right(int station, int hour, int value, int reason)
            throws IndexOutOfBoundsException, IllegalArgumentException, IllegalStateException {
        checkStation(station);
        checkHour(hour);
        checkValue(value);
        if (reason < 1 || reason > 4) {
            throw new IllegalArgumentException("no such REASON");
        }
        return changeThere(placeOf(station, hour), value, reason);
    }

    public int withdraw(int station, int hour)
            throws IndexOutOfBoundsException, IllegalStateException {
        checkStation(station);
        checkHour(hour);
        return changeThere(placeOf(station, hour), VOID, 0);
    }

    public int bar(int station, int from, int to)
            throws IndexOutOfBoundsException, IllegalArgumentException, IllegalStateException {
        checkSpan(station, from, to);
        if (barred.size() >= MOST_BARRED) {
            throw new IllegalStateException("6 SPANS are BARRED");
        }
        Span span = new Span(placeOf(station, from), placeOf(station, to));
        tallySpan(span.first, span.last);
        if (startAct(span, NONE)) {
            barred.add(span);
        }
        return tally.count;
    }

    public int free(int number)
            throws IndexOutOfBoundsException {
        if (number < 0 || number >= barred.size()) {
            throw new IndexOutOfBoundsException("no such BARRED SPAN");
        }
        Span span = barred.get(number);
        if (startAct(span, number)) {
            barred.remove(number);
        }
        tallySpan(span.first, span.last);
        return tally.count;
    }

    public int undo()
            throws IllegalStateException {
        if (steps <= 0 || acts.isEmpty()) {
            throw new IllegalStateException("no STEP BACK");
        }
        Act act = acts.remove(acts.size() - 1);
        for (int index = changes.count - 1; index >= act.firstChange && index >= 0; index--) {
            readings.store(changes.placeAt(index), changes.valueAt(index), changes.noteAt(index));
        }
        changes.cut(act.firstChange);
        restoreBarred(act);
        steps--;
        return steps;
    }

    public int lend(int station, int hour, int value)
            throws IndexOutOfBoundsException, IllegalArgumentException {
        checkStation(station);
        checkHour(hour);
        checkValue(value);
        otherArchive.store(placeOf(station, hour), value, 0);
        return otherArchive.count;
    }

    public int join(boolean isOtherFirst) {
        if (startAct(null, NONE)) {
            quarrelRows.cut(0);
            for (int index = 0; index < otherArchive.count; index++) {
                joinPlace(otherArchive.placeAt(index), otherArchive.valueAt(index));
            }
            otherArchive.copyValues(readings);
        }
        return quarrelRows.count;
    }

    // ---- what is told, lines

    public int unit(int unit, int above, int under, int shift)
            throws IndexOutOfBoundsException, IllegalArgumentException {
        checkUnit(unit);
        if (above < -99 || above > 99 || under < 1 || under > 99 || shift < -999 || shift > 999) {
            throw new IllegalArgumentException("above, under or shift is not in its bounds");
        }
        setNumber(units, unit * 3, above);
        setNumber(units, unit * 3 + 1, under);
        setNumber(units, unit * 3 + 2, shift);
        return inUnit(unit, 100);
    }

    public int enough(int many)
            throws IllegalArgumentException {
        if (many < 1 || many > DAY_HOURS) {
            throw new IllegalArgumentException("ENOUGH is 1 to 24");
        }
        int before = enoughReadings;
        enoughReadings = many;
        return before;
    }

    public boolean leap(boolean isTogether) {
        boolean before = areTogether;
        areTogether = isTogether;
        return before;
    }

    public int say(int a, int b, int c, int d, int e, int f)
            throws IllegalArgumentException, IllegalStateException {
        checkSign(a);
        checkSign(b);
        checkSign(c);
        checkSign(d);
        checkSign(e);
        checkSign(f);
        int length = lengthAfter(lengthAfter(lengthAfter(signs.length(), a), b), c);
        length = lengthAfter(lengthAfter(lengthAfter(length, d), e), f);
        if (length > MOST_TYPED) {
            throw new IllegalStateException("TYPED would be too long");
        }
        type(a);
        type(b);
        type(c);
        type(d);
        type(e);
        type(f);
        return signs.length();
    }

    public int enter(int unit)
            throws IndexOutOfBoundsException {
        checkUnit(unit);
        int wrong = reader.read(signs);
        if (wrong != NONE) {
            return -2 - wrong;
        }
        int value = inUnit(unit, reader.number);
        if (!isValue(value)) {
            return NO_VALUE_TYPED;
        }
        int place = placeOf(reader.station, reader.day * DAY_HOURS + reader.hourOfDay);
        if (startAct(null, NONE)) {
            change(place, value, readings.valueOf(place) == VOID ? 0 : RIGHT_BY_TYPING);
            signs.setLength(0);
        }
        return acts.size();
    }

    public int look() {
        refused++;
        return refused;
    }

    // ---- what is asked of readings

    public int value(int station, int hour, boolean isBarred)
            throws IndexOutOfBoundsException {
        checkStation(station);
        checkHour(hour);
        int place = placeOf(station, hour);
        return isBarred ? readings.valueOf(place) : standingAt(place);
    }

    public int was(int station, int hour, int moment)
            throws IndexOutOfBoundsException, IllegalArgumentException {
        checkStation(station);
        checkHour(hour);
        if (moment < 0 || moment > acts.size()) {
            throw new IllegalArgumentException("no MOMENT up to now");
        }
        int place = placeOf(station, hour);
        return coversAt(place, moment) > 0 ? VOID : valueAt(place, moment);
    }

    public int reason(int station, int hour)
            throws IndexOutOfBoundsException {
        checkStation(station);
        checkHour(hour);
        return readings.noteOf(placeOf(station, hour));
    }

    public String line(int nth)
            throws IllegalArgumentException {
        if (nth < 0) {
            throw new IllegalArgumentException("nth is below 0");
        }
        writeNthLine(nth);
        return text.toString();
    }

    public String typed() {
        return signs.toString();
    }

    public int fault() {
        return reader.read(signs);
    }

    public String quarrels() {
        writeQuarrels();
        return text.toString();
    }

    // ---- what is asked of spans

    public int ofSpan(int station, int from, int to, int what)
            throws IndexOutOfBoundsException, IllegalArgumentException {
        checkSpan(station, from, to);
        if (what < 0 || what > 6) {
            throw new IllegalArgumentException("what is not 0 to 6");
        }
        int first = placeOf(station, from);
        int last = placeOf(station, to);
        if (what == 5) {
            return longestGap(first, last);
        }
        tallySpan(first, last);
        switch (what) {
            case 0: return tally.count;
            case 1: return tally.sum;
            case 2: return tally.least;
            case 3: return tally.greatest;
            case 4: return last - first + 1 - tally.count;
            default: return tally.covered;
        }
    }

    public String mean(int station, int from, int to)
            throws IndexOutOfBoundsException, IllegalArgumentException {
        checkSpan(station, from, to);
        writeMean(placeOf(station, from), placeOf(station, to));
        return text.toString();
    }

    public int rank(int station, int from, int to, int value)
            throws IndexOutOfBoundsException, IllegalArgumentException {
        checkSpan(station, from, to);
        gather(placeOf(station, from), placeOf(station, to));
        int less = 0;
        for (int index = 0; index < values.count; index++) {
            if (values.at(index) < value) {
                less++;
            }
        }
        return less;
    }

    public int ranked(int station, int from, int to, int k)
            throws IndexOutOfBoundsException, IllegalArgumentException {
        checkSpan(station, from, to);
        if (k < 0) {
            throw new IllegalArgumentException("k is below 0");
        }
        gather(placeOf(station, from), placeOf(station, to));
        values.sort();
        return values.at(k);
    }

    public String slide(int station, int from, int wide, boolean isGreatest)
            throws IndexOutOfBoundsException, IllegalArgumentException {
        checkStation(station);
        checkHour(from);
        if (wide < 1 || wide > 100) {
            throw new IllegalArgumentException("wide is not 1 to 100");
        }
        text.setLength(0);
        for (int nth = 0; nth < WINDOWS; nth++) {
            int last = Math.min(HOURS - 1, from + nth + wide - 1);
            tallySpan(placeOf(station, from + nth), placeOf(station, last));
            separate();
            if (tally.count == 0) {
                text.append('-');
            } else {
                text.append(isGreatest ? tally.greatest : tally.least);
            }
        }
        return text.toString();
    }

    public String top(int stations, int from, int to, int many)
            throws IndexOutOfBoundsException, IllegalArgumentException {
        checkHour(from);
        checkHour(to);
        if (stations < 0 || stations > ALL_STATIONS || to < from || many < 1 || many > 6) {
            throw new IllegalArgumentException("stations, to or many is not in its bounds");
        }
        writeTop(stations, from, to, many);
        return text.toString();
    }

    public int kept(int station, int height, int place, boolean isCount)
            throws IndexOutOfBoundsException {
        checkStation(station);
        if (height < 0 || height > TOP_HEIGHT) {
            throw new IndexOutOfBoundsException("no such height");
        }
        if (place < 0 || place >= 1 << (TOP_HEIGHT - height)) {
            throw new IndexOutOfBoundsException("no such place");
        }
        tallyKept(station, height, place);
        return isCount ? tally.count : tally.sum;
    }

    // ---- what is asked of days and months

    public String climate(int station, int month, int day)
            throws IndexOutOfBoundsException, IllegalArgumentException {
        checkStation(station);
        if (month < 1 || month > YEAR_MONTHS || day < 1 || day > daysOf(month - 1)) {
            throw new IllegalArgumentException("no year has that date");
        }
        boolean isLeap = areTogether && month == FEBRUARY && day >= LEAP_DAY - 1;
        int firstDay = isLeap ? LEAP_DAY - 1 : day;
        int lastDay = isLeap ? LEAP_DAY : day;
        tally.clear();
        for (int year = 0; year < YEARS; year++) {
            int start = numberAt(MONTH_STARTS, year * YEAR_MONTHS + month - 1);
            int last = Math.min(lastDay, daysOf(year * YEAR_MONTHS + month - 1));
            addSpan(firstOfDay(station, start + firstDay - 1), firstOfDay(station, start + last) - 1);
        }
        writeTallyMean();
        return text.toString();
    }

    public String records(int station, boolean isHigh)
            throws IndexOutOfBoundsException {
        checkStation(station);
        writeRecords(station, isHigh);
        return text.toString();
    }

    public String runs(int station, int from, int to, int bound, int least)
            throws IndexOutOfBoundsException, IllegalArgumentException {
        checkDays(station, from, to);
        if (to < from || least < 1) {
            throw new IllegalArgumentException("to is before from, or least is below 1");
        }
        listFullDays(station, from, to);
        text.setLength(0);
        int first = NONE;
        int last = NONE;
        for (int index = 0; index < sheet.count; index++) {
            int day = sheet.placeAt(index);
            if (sheet.valueAt(index) > bound) {
                continue;
            }
            if (first == NONE || day != last + 1) {
                writeRun(first, last, least);
                first = day;
            }
            last = day;
        }
        writeRun(first, last, least);
        return text.toString();
    }

    public int frost(int station, int year, int bound, boolean isFirst)
            throws IndexOutOfBoundsException, IllegalArgumentException {
        checkStation(station);
        if (year < FIRST_YEAR || year >= FIRST_YEAR + YEARS) {
            throw new IllegalArgumentException("year is not 2000 to 2003");
        }
        int month = (year - FIRST_YEAR) * YEAR_MONTHS;
        int first = firstOfDay(station, numberAt(MONTH_STARTS, month));
        int behind = firstOfDay(station, numberAt(MONTH_STARTS, month + YEAR_MONTHS));
        int day = NONE;
        for (int index = readings.locate(first); index < readings.count && readings.placeAt(index) < behind; index++) {
            int place = readings.placeAt(index);
            if (readings.valueAt(index) <= bound && !isCovered(place)) {
                day = dayOf(place);
                if (isFirst) {
                    return day;
                }
            }
        }
        return day;
    }

    public String degrees(int station, int from, int to, int base)
            throws IndexOutOfBoundsException, IllegalArgumentException {
        checkDays(station, from, to);
        checkOrder(from, to);
        listFullDays(station, from, to);
        quotient.tell(0, COMMON_UNDER);
        for (int index = 0; index < sheet.count; index++) {
            int many = sheet.noteAt(index);
            long over = sheet.valueAt(index) - (long) base * many;
            if (over > 0 && many > 0) {
                quotient.addProduct(over, COMMON_UNDER / many);
            }
        }
        text.setLength(0);
        quotient.write(text);
        return text.toString();
    }

    public int month(int station, int month, int what)
            throws IndexOutOfBoundsException, IllegalArgumentException {
        checkStation(station);
        checkMonth(month);
        if (what < 0 || what > 5) {
            throw new IllegalArgumentException("what is not 0 to 5");
        }
        return monthNumber(station, month, what);
    }

    public String beside(int station, int month, int other)
            throws IndexOutOfBoundsException {
        checkStation(station);
        checkMonth(month);
        checkMonth(other);
        tallyMonth(station, other);
        int otherCount = tally.count;
        int otherSum = tally.sum;
        tallyMonth(station, month);
        text.setLength(0);
        if (tally.count == 0 || otherCount == 0) {
            text.append('-');
        } else {
            long above = (long) tally.sum * otherCount - (long) otherSum * tally.count;
            quotient.tell(above, (long) tally.count * otherCount);
            quotient.write(text);
        }
        return text.toString();
    }

    // ---- breaks, fillings, comparisons

    public String breaks(int station, int from, int to, int price, int least)
            throws IndexOutOfBoundsException, IllegalArgumentException {
        checkDays(station, from, to);
        checkParting(from, to, price, least);
        part(station, from, to, price, least);
        text.setLength(0);
        if (!parting.isThere()) {
            text.append('-');
            return text.toString();
        }
        int at = parting.endOf(0);
        for (int turn = 0; turn < MOST_SERIES && at < parting.count; turn++) {
            separate();
            text.append(parting.dayAt(at));
            at = parting.endOf(at);
        }
        return text.toString();
    }

    public String breakCost(int station, int from, int to, int price, int least)
            throws IndexOutOfBoundsException, IllegalArgumentException {
        checkDays(station, from, to);
        checkParting(from, to, price, least);
        part(station, from, to, price, least);
        text.setLength(0);
        if (parting.isThere()) {
            quotient.tell(parting.costAbove(), parting.costUnder());
            quotient.write(text);
        } else {
            text.append('-');
        }
        return text.toString();
    }

    public String fill(int station, int others, int from, int to, int hour)
            throws IndexOutOfBoundsException, IllegalArgumentException {
        checkFitting(station, from, to, hour);
        checkOthers(station, others, from, to);
        int one = lowestOf(others);
        int two = highestOf(others);
        int x = standingAt(placeOf(one, hour));
        int y = standingAt(placeOf(two, hour));
        text.setLength(0);
        if (x != VOID && y != VOID && fit(station, others, from, to, hour)) {
            fitting.tellFilling(x, y, quotient);
            quotient.write(text);
        } else {
            text.append('-');
        }
        return text.toString();
    }

    public String combination(int station, int others, int from, int to, int hour)
            throws IndexOutOfBoundsException, IllegalArgumentException {
        checkFitting(station, from, to, hour);
        checkOthers(station, others, from, to);
        text.setLength(0);
        if (!fit(station, others, from, to, hour)) {
            text.append('-');
            return text.toString();
        }
        fitting.tellFilling(0, 0, quotient);
        quotient.write(text);
        text.append(' ');
        fitting.tellFirst(quotient);
        quotient.write(text);
        if (lowestOf(others) != highestOf(others)) {
            text.append(' ');
            fitting.tellSecond(quotient);
            quotient.write(text);
        }
        return text.toString();
    }

    public int slip(int station, int hour, int others, int bound)
            throws IndexOutOfBoundsException, IllegalArgumentException {
        checkStation(station);
        checkHour(hour);
        if (others < 0 || others > ALL_STATIONS || (others >> station & 1) != 0 || bound < 0) {
            throw new IllegalArgumentException("others or bound is not in its bounds");
        }
        int here = standingAt(placeOf(station, hour));
        tally.clear();
        for (int other = 0; other < STATIONS; other++) {
            int there = (others >> other & 1) != 0 ? standingAt(placeOf(other, hour)) : VOID;
            if (there != VOID) {
                tally.take(there);
            }
        }
        if (here == VOID || tally.count == 0) {
            return NONE;
        }
        long apart = Math.abs((long) here * tally.count - tally.sum);
        return apart > (long) bound * tally.count ? 1 : 0;
    }

    public String rose(int station, int from, int to, int parts)
            throws IndexOutOfBoundsException, IllegalArgumentException {
        checkSpan(station, from, to);
        if (parts < 2 || parts > 8) {
            throw new IllegalArgumentException("parts is not 2 to 8");
        }
        gather(placeOf(station, from), placeOf(station, to));
        text.setLength(0);
        for (int part = 0; part < parts; part++) {
            int many = 0;
            for (int index = 0; index < values.count; index++) {
                if (Math.floorMod(values.at(index), CIRCLE) * parts / CIRCLE == part) {
                    many++;
                }
            }
            separate();
            text.append(many);
        }
        return text.toString();
    }

    public int pairs(int station, int other, int from, int to)
            throws IndexOutOfBoundsException, IllegalArgumentException {
        checkStation(other);
        checkSpan(station, from, to);
        return countPairs(station, other, from, to);
    }

    // ---- all

    public int house(int what)
            throws IllegalArgumentException {
        if (what < 0 || what > 9) {
            throw new IllegalArgumentException("what is not 0 to 9");
        }
        return houseNumber(what);
    }

    public boolean isSound() {
        for (int station = 0; station < STATIONS; station++) {
            if (!areKeptSound(station) || !isOrderSound(station) || !areRecordsSound(station) || !areLinesSound(station)) {
                return false;
            }
        }
        return true;
    }

    public long digest() {
        long sum = 6133;
        for (int what = 0; what <= 9; what++) {
            sum = sum * 31 + houseNumber(what);
        }
        for (int station = 0; station < STATIONS; station++) {
            sum = digestStation(sum, station);
        }
        sum = sum * 31 + countPairs(0, 1, 0, HOURS - 1);
        writeTop(ALL_STATIONS, 0, HOURS - 1, 3);
        sum = sum * 31 + text.length();
        writeNthLine(0);
        sum = sum * 31 + text.length();
        sum = sum * 31 + signs.length();
        writeQuarrels();
        sum = sum * 31 + text.length();
        sum = sum * 31 + reader.read(signs);
        return sum * 31 + (isSound() ? 1 : 0);
    }

    // ---- tests of what is given

    private static void checkStation(int station) {
        if (station < 0 || station >= STATIONS) {
            throw new IndexOutOfBoundsException("no such STATION");
        }
    }

    private static void checkHour(int hour) {
        if (hour < 0 || hour >= HOURS) {
            throw new IndexOutOfBoundsException("no such HOUR");
        }
    }

    private static void checkMonth(int month) {
        if (month < 0 || month >= MONTHS) {
            throw new IndexOutOfBoundsException("no such MONTH");
        }
    }

    private static void checkUnit(int unit) {
        if (unit < 0 || unit >= UNITS) {
            throw new IndexOutOfBoundsException("no such UNIT");
        }
    }

    private static void checkValue(int value) {
        if (!isValue(value)) {
            throw new IllegalArgumentException("no VALUE");
        }
    }

    private static void checkSign(int sign) {
        if (sign < NONE || sign > SIGN_CLEAR) {
            throw new IllegalArgumentException("no SIGN, and nothing else to type");
        }
    }

    private static void checkOrder(int from, int to) {
        if (to < from) {
            throw new IllegalArgumentException("to is before from");
        }
    }

    private static void checkSpan(int station, int from, int to) {
        checkStation(station);
        checkHour(from);
        checkHour(to);
        checkOrder(from, to);
    }

    private static void checkDays(int station, int from, int to) {
        checkStation(station);
        if (from < 0 || from >= DAYS || to < 0 || to >= DAYS) {
            throw new IndexOutOfBoundsException("no such DAY");
        }
    }

    private static void checkParting(int from, int to, int price, int least) {
        if (to < from || to >= from + MOST_SERIES || price < 0 || price > 99999 || least < 1 || least > 4) {
            throw new IllegalArgumentException("to, price or least is not in its bounds");
        }
    }

    private static void checkFitting(int station, int from, int to, int hour) {
        checkStation(station);
        checkHour(from);
        checkHour(to);
        checkHour(hour);
    }

    private static void checkOthers(int station, int others, int from, int to) {
        int many = Integer.bitCount(others);
        if (others < 1 || others > ALL_STATIONS || many > 2 || (others >> station & 1) != 0) {
            throw new IllegalArgumentException("others is no set of one or two other STATIONS");
        }
        if (to < from || to >= from + MOST_KNOWN) {
            throw new IllegalArgumentException("to is not in its bounds");
        }
    }

    private static boolean isValue(int value) {
        return value >= -GREATEST_VALUE && value <= GREATEST_VALUE;
    }

    // ---- places, dates, sets

    private static int placeOf(int station, int hour) {
        return station * HOURS + hour;
    }

    private static int firstOfDay(int station, int day) {
        return station * HOURS + day * DAY_HOURS;
    }

    private static int dayOf(int place) {
        return place % HOURS / DAY_HOURS;
    }

    private static int daysOf(int month) {
        return numberAt(MONTH_STARTS, month + 1) - numberAt(MONTH_STARTS, month);
    }

    private static int monthOf(int day) {
        int month = 0;
        while (month < MONTHS - 1 && numberAt(MONTH_STARTS, month + 1) <= day) {
            month++;
        }
        return month;
    }

    private static int lowestOf(int set) {
        int lowest = 0;
        while (lowest < STATIONS - 1 && (set >> lowest & 1) == 0) {
            lowest++;
        }
        return lowest;
    }

    private static int highestOf(int set) {
        int highest = STATIONS - 1;
        while (highest > 0 && (set >> highest & 1) == 0) {
            highest--;
        }
        return highest;
    }

    private static int numberAt(int[] row, int index) {
        return index >= 0 && index < row.length ? row[index] : 0;
    }

    private static void setNumber(int[] row, int index, int number) {
        if (index >= 0 && index < row.length) {
            row[index] = number;
        }
    }

    private static long longAt(long[] row, int index) {
        return index >= 0 && index < row.length ? row[index] : 0;
    }

    private static void setLong(long[] row, int index, long number) {
        if (index >= 0 && index < row.length) {
            row[index] = number;
        }
    }

    private static long commonDivisor(long one, long two) {
        long left = Math.abs(one);
        long right = Math.abs(two);
        for (int turn = 0; turn < MANY_TURNS && right != 0; turn++) {
            long rest = left % right;
            left = right;
            right = rest;
        }
        return left;
    }

    // ---- acts

    /** Answers false for an object that is spent: then nothing may change any more. */
    private boolean startAct(Span span, int number) {
        if (acts.size() >= LIFE) {
            return false;
        }
        acts.add(new Act(changes.count, span, number));
        steps = Math.min(MOST_STEPS, steps + 1);
        return true;
    }

    private void change(int place, int value, int reason) {
        if (changes.add(place, readings.valueOf(place), readings.noteOf(place))) {
            readings.store(place, value, reason);
        }
    }

    private int changeThere(int place, int value, int reason) {
        int before = readings.valueOf(place);
        if (before == VOID) {
            throw new IllegalStateException("no READING is THERE");
        }
        if (startAct(null, NONE)) {
            change(place, value, reason);
        }
        return before;
    }

    private void restoreBarred(Act act) {
        if (act.span == null) {
            return;
        }
        if (act.number == NONE) {
            if (!barred.isEmpty()) {
                barred.remove(barred.size() - 1);
            }
        } else if (act.number >= 0 && act.number <= barred.size()) {
            barred.add(act.number, act.span);
        }
    }

    private void joinPlace(int place, int lent) {
        int here = readings.valueOf(place);
        if (here != VOID && here != lent) {
            quarrelRows.add(place, here, lent);
        }
        // VOID is below every VALUE, so one test is enough for what comes and what becomes greater.
        if (here < lent) {
            change(place, lent, 0);
        }
    }

    private int inUnit(int unit, int number) {
        int above = numberAt(units, unit * 3);
        int under = Math.max(1, numberAt(units, unit * 3 + 1));
        return Math.floorDiv(number * above, under) + numberAt(units, unit * 3 + 2);
    }

    /** A length beyond the greatest one stays, since TYPED may not be so long at any moment. */
    private static int lengthAfter(int length, int sign) {
        if (length > MOST_TYPED || sign == NONE) {
            return length;
        }
        if (sign == SIGN_CLEAR) {
            return 0;
        }
        return sign == SIGN_BACK ? Math.max(0, length - 1) : length + 1;
    }

    private void type(int sign) {
        if (sign == SIGN_CLEAR) {
            signs.setLength(0);
        } else if (sign == SIGN_BACK) {
            signs.setLength(Math.max(0, signs.length() - 1));
        } else if (sign >= 0 && sign < SIGNS.length()) {
            signs.append(SIGNS.charAt(sign));
        }
    }

    // ---- what stands, and stood

    private boolean isCovered(int place) {
        for (int number = 0; number < barred.size(); number++) {
            Span span = barred.get(number);
            if (span.first <= place && place <= span.last) {
                return true;
            }
        }
        return false;
    }

    private int standingAt(int place) {
        return isCovered(place) ? VOID : readings.valueOf(place);
    }

    /** How many SPANS BARRED the place at a MOMENT: those of now, less what the ACTS since then did. */
    private int coversAt(int place, int moment) {
        int covers = 0;
        for (int number = 0; number < barred.size(); number++) {
            if (barred.get(number).covers(place)) {
                covers++;
            }
        }
        for (int index = Math.max(0, moment); index < acts.size(); index++) {
            Act act = acts.get(index);
            if (act.span != null && act.span.covers(place)) {
                covers += act.number == NONE ? -1 : 1;
            }
        }
        return covers;
    }

    private int valueAt(int place, int moment) {
        if (moment >= 0 && moment < acts.size()) {
            for (int index = acts.get(moment).firstChange; index < changes.count; index++) {
                if (changes.placeAt(index) == place) {
                    return changes.valueAt(index);
                }
            }
        }
        return readings.valueOf(place);
    }

    private void tallySpan(int first, int last) {
        tally.clear();
        addSpan(first, last);
    }

    private void addSpan(int first, int last) {
        for (int index = readings.locate(first); index < readings.count && readings.placeAt(index) <= last; index++) {
            if (isCovered(readings.placeAt(index))) {
                tally.covered++;
            } else {
                tally.take(readings.valueAt(index));
            }
        }
    }

    private void tallyKept(int station, int height, int place) {
        int first = Math.min(DAYS, place << height);
        int behind = Math.min(DAYS, (place + 1) << height);
        tally.clear();
        addSpan(firstOfDay(station, first), firstOfDay(station, behind) - 1);
    }

    private void tallyMonth(int station, int month) {
        int first = firstOfDay(station, numberAt(MONTH_STARTS, month));
        tallySpan(first, firstOfDay(station, numberAt(MONTH_STARTS, month + 1)) - 1);
    }

    private void gather(int first, int last) {
        values.clear();
        for (int index = readings.locate(first); index < readings.count && readings.placeAt(index) <= last; index++) {
            if (!isCovered(readings.placeAt(index))) {
                values.add(readings.valueAt(index));
            }
        }
    }

    private int longestGap(int first, int last) {
        int longest = 0;
        int before = first - 1;
        for (int index = readings.locate(first); index < readings.count && readings.placeAt(index) <= last; index++) {
            int place = readings.placeAt(index);
            if (!isCovered(place)) {
                longest = Math.max(longest, place - before - 1);
                before = place;
            }
        }
        return Math.max(longest, last - before);
    }

    private void listFullDays(int station, int from, int to) {
        sheet.cut(0);
        int behind = firstOfDay(station, to + 1);
        int day = NONE;
        int sum = 0;
        int many = 0;
        int index = readings.locate(firstOfDay(station, from));
        for (; index < readings.count && readings.placeAt(index) < behind; index++) {
            int place = readings.placeAt(index);
            if (isCovered(place)) {
                continue;
            }
            if (dayOf(place) != day) {
                addFullDay(day, sum, many);
                day = dayOf(place);
                sum = 0;
                many = 0;
            }
            sum += readings.valueAt(index);
            many++;
        }
        addFullDay(day, sum, many);
    }

    private void addFullDay(int day, int sum, int many) {
        if (day != NONE && many >= enoughReadings) {
            sheet.add(day, sum, many);
        }
    }

    private int monthNumber(int station, int month, int what) {
        int first = numberAt(MONTH_STARTS, month);
        int many = daysOf(month);
        if (what == 2 || what == 3) {
            tallyMonth(station, month);
            return what == 2 ? tally.count : tally.sum;
        }
        listFullDays(station, first, first + many - 1);
        switch (what) {
            case 0: return sheet.count;
            case 1: return many - sheet.count <= OPEN_DAYS ? 1 : 0;
            case 4: return greatestDaySum();
            default: return many;
        }
    }

    private int greatestDaySum() {
        // A DAY SUM may be below VOID, so the first one is no comparison.
        int greatest = VOID;
        for (int index = 0; index < sheet.count; index++) {
            if (index == 0 || sheet.valueAt(index) > greatest) {
                greatest = sheet.valueAt(index);
            }
        }
        return greatest;
    }

    private int countPairs(int station, int other, int from, int to) {
        gather(placeOf(other, from), placeOf(other, to));
        values.sort();
        int difference = 0;
        int last = placeOf(station, to);
        int index = readings.locate(placeOf(station, from));
        for (; index < readings.count && readings.placeAt(index) <= last; index++) {
            if (!isCovered(readings.placeAt(index))) {
                int here = readings.valueAt(index);
                difference += values.count - values.below(here + 1) - values.below(here);
            }
        }
        return difference;
    }

    private void listRecords(int station, boolean isHigh) {
        values.clear();
        int behind = placeOf(station + 1, 0);
        int latest = VOID;
        int index = readings.locate(placeOf(station, 0));
        for (; index < readings.count && readings.placeAt(index) < behind; index++) {
            int here = readings.valueAt(index);
            boolean isRecord = latest == VOID || (isHigh ? here > latest : here < latest);
            if (isRecord && !isCovered(readings.placeAt(index))) {
                latest = here;
                values.add(readings.placeAt(index));
            }
        }
    }

    private void part(int station, int from, int to, int price, int least) {
        listFullDays(station, from, to);
        parting.clear();
        for (int index = 0; index < sheet.count; index++) {
            parting.add(sheet.placeAt(index), sheet.valueAt(index));
        }
        parting.solve(price, least);
    }

    private boolean fit(int station, int others, int from, int to, int hour) {
        int one = lowestOf(others);
        int two = highestOf(others);
        fitting.clear(one != two);
        int last = placeOf(station, to);
        int index = readings.locate(placeOf(station, from));
        for (; index < readings.count && readings.placeAt(index) <= last; index++) {
            int place = readings.placeAt(index);
            int at = place - placeOf(station, 0);
            if (at == hour || isCovered(place)) {
                continue;
            }
            int x = standingAt(placeOf(one, at));
            int y = standingAt(placeOf(two, at));
            if (x != VOID && y != VOID) {
                fitting.take(x, y, readings.valueAt(index));
            }
        }
        return fitting.solve();
    }

    private int countStanding() {
        tallySpan(0, placeOf(STATIONS, 0) - 1);
        return tally.count;
    }

    private int houseNumber(int what) {
        switch (what) {
            case 0: return acts.size();
            case 1: return readings.count;
            case 2: return countStanding();
            case 3: return barred.size();
            case 4: return enoughReadings;
            case 5: return signs.length();
            case 6: return otherArchive.count;
            case 7: return steps;
            case 8: return quarrelRows.count;
            default: return refused;
        }
    }

    private long digestStation(long begin, int station) {
        int first = placeOf(station, 0);
        writeMean(first, first + HOURS - 1);
        long sum = begin;
        sum = sum * 31 + tally.count;
        sum = sum * 31 + tally.sum;
        sum = sum * 31 + tally.least;
        sum = sum * 31 + tally.greatest;
        sum = sum * 31 + tally.covered;
        sum = sum * 31 + text.length();
        // The one with none ahead of it is the least.
        sum = sum * 31 + tally.least;
        tallyKept(station, TOP_HEIGHT, 0);
        sum = (sum * 31 + tally.sum) * 31 + tally.count;
        tallyKept(station, 5, 0);
        sum = (sum * 31 + tally.sum) * 31 + tally.count;
        writeRecords(station, true);
        sum = sum * 31 + text.length();
        writeRecords(station, false);
        sum = sum * 31 + text.length();
        for (int what = 0; what <= 4; what++) {
            sum = sum * 31 + monthNumber(station, 0, what);
        }
        return sum;
    }

    // ---- what is sound

    /** Looks at the KEPT sums that have a READING; the others are 0, as their halves are. */
    private boolean areKeptSound(int station) {
        int behind = placeOf(station + 1, 0);
        int begin = readings.locate(placeOf(station, 0));
        for (int height = 1; height <= TOP_HEIGHT; height++) {
            int before = NONE;
            for (int index = begin; index < readings.count && readings.placeAt(index) < behind; index++) {
                int place = dayOf(readings.placeAt(index)) >> height;
                if (place != before && !isNodeSound(station, height, place)) {
                    return false;
                }
                before = place;
            }
        }
        tallyKept(station, TOP_HEIGHT, 0);
        int sum = tally.sum;
        int many = tally.count;
        tallySpan(placeOf(station, 0), behind - 1);
        return sum == tally.sum && many == tally.count;
    }

    private boolean isNodeSound(int station, int height, int place) {
        tallyKept(station, height - 1, place * 2);
        int sum = tally.sum;
        int many = tally.count;
        tallyKept(station, height - 1, place * 2 + 1);
        sum += tally.sum;
        many += tally.count;
        tallyKept(station, height, place);
        return sum == tally.sum && many == tally.count;
    }

    private boolean isOrderSound(int station) {
        gather(placeOf(station, 0), placeOf(station + 1, 0) - 1);
        values.sort();
        for (int k = 0; k < values.count; k++) {
            if (k > 0 && values.at(k - 1) > values.at(k) || values.below(values.at(k)) > k) {
                return false;
            }
        }
        return true;
    }

    private boolean areRecordsSound(int station) {
        listRecords(station, true);
        for (int index = 1; index < values.count; index++) {
            int before = values.at(index - 1);
            int after = values.at(index);
            int high = readings.valueOf(before);
            tallySpan(before + 1, after - 1);
            if (readings.valueOf(after) <= high || tally.greatest > high) {
                return false;
            }
        }
        return true;
    }

    private boolean areLinesSound(int station) {
        int behind = placeOf(station + 1, 0);
        int many = 0;
        int index = readings.locate(placeOf(station, 0));
        for (; index < readings.count && many < SOUND_LINES && readings.placeAt(index) < behind; index++) {
            int place = readings.placeAt(index);
            if (isCovered(place)) {
                continue;
            }
            writeLine(place, readings.valueAt(index));
            boolean isRead = reader.read(text) == NONE && reader.number == readings.valueAt(index);
            int hour = reader.day * DAY_HOURS + reader.hourOfDay;
            if (!isRead || placeOf(reader.station, hour) != place) {
                return false;
            }
            many++;
        }
        return true;
    }

    // ---- texts

    private void separate() {
        if (text.length() > 0) {
            text.append(' ');
        }
    }

    private void writeMean(int first, int last) {
        tallySpan(first, last);
        writeTallyMean();
    }

    private void writeTallyMean() {
        text.setLength(0);
        if (tally.count == 0) {
            text.append('-');
        } else {
            quotient.tell(tally.sum, tally.count);
            quotient.write(text);
        }
    }

    private void writeRecords(int station, boolean isHigh) {
        listRecords(station, isHigh);
        text.setLength(0);
        for (int index = 0; index < values.count; index++) {
            separate();
            text.append(values.at(index) - placeOf(station, 0));
        }
        if (values.count == 0) {
            text.append('-');
        }
    }

    private void writeRun(int first, int last, int least) {
        if (first != NONE && last - first + 1 >= least) {
            separate();
            text.append(first).append('-').append(last);
        }
    }

    private void writeTop(int stations, int from, int to, int many) {
        sheet.cut(0);
        for (int station = 0; station < STATIONS; station++) {
            if ((stations >> station & 1) != 0) {
                offerSpan(placeOf(station, from), placeOf(station, to), many);
            }
        }
        text.setLength(0);
        for (int index = 0; index < sheet.count; index++) {
            int place = sheet.placeAt(index);
            separate();
            text.append(sheet.valueAt(index)).append('@').append(place % HOURS).append('/').append(place / HOURS);
        }
    }

    private void offerSpan(int first, int last, int many) {
        for (int index = readings.locate(first); index < readings.count && readings.placeAt(index) <= last; index++) {
            int place = readings.placeAt(index);
            if (isCovered(place)) {
                continue;
            }
            int at = sheet.count;
            while (at > 0 && isAhead(place, readings.valueAt(index), at - 1)) {
                at--;
            }
            if (at < many) {
                sheet.insert(at, place, readings.valueAt(index), 0);
                sheet.cut(many);
            }
        }
    }

    private boolean isAhead(int place, int value, int index) {
        if (value != sheet.valueAt(index)) {
            return value > sheet.valueAt(index);
        }
        int hour = place % HOURS;
        int otherHour = sheet.placeAt(index) % HOURS;
        return hour != otherHour ? hour < otherHour : place < sheet.placeAt(index);
    }

    private void writeNthLine(int nth) {
        int left = nth;
        for (int index = 0; index < readings.count; index++) {
            if (isCovered(readings.placeAt(index))) {
                continue;
            }
            if (left == 0) {
                writeLine(readings.placeAt(index), readings.valueAt(index));
                return;
            }
            left--;
        }
        text.setLength(0);
        text.append('!');
    }

    private void writeLine(int place, int value) {
        int day = dayOf(place);
        int month = monthOf(day);
        int size = Math.abs(value);
        text.setLength(0);
        text.append(place / HOURS).append(' ').append(FIRST_YEAR + month / YEAR_MONTHS).append('-');
        writeTwo(month % YEAR_MONTHS + 1);
        text.append('-');
        writeTwo(day - numberAt(MONTH_STARTS, month) + 1);
        text.append(' ');
        writeTwo(place % HOURS % DAY_HOURS);
        text.append(' ');
        if (value < 0) {
            text.append('-');
        }
        text.append(size / 10).append('.').append(size % 10);
    }

    private void writeTwo(int number) {
        text.append(number / 10).append(number % 10);
    }

    private void writeQuarrels() {
        text.setLength(0);
        for (int index = 0; index < quarrelRows.count; index++) {
            int place = quarrelRows.placeAt(index);
            separate();
            text.append(place / HOURS).append(':').append(place % HOURS).append('=');
            text.append(quarrelRows.valueAt(index)).append('/').append(quarrelRows.noteAt(index));
        }
    }

    // ---- classes

    /** Rows of a place, a value and a note, which grow. */
    private static final class Table {
        private int[] places = new int[FIRST_ROOM];
        private int[] values = new int[FIRST_ROOM];
        private int[] notes = new int[FIRST_ROOM];
        private int count;

        private int placeAt(int index) {
            return index >= 0 && index < count && index < places.length ? places[index] : NONE;
        }

        private int valueAt(int index) {
            return index >= 0 && index < count && index < values.length ? values[index] : VOID;
        }

        private int noteAt(int index) {
            return index >= 0 && index < count && index < notes.length ? notes[index] : NONE;
        }

        /** Of sorted rows: the first one that is not ahead of the place. */
        private int locate(int place) {
            int low = 0;
            int high = count;
            for (int turn = 0; turn < 32 && low < high; turn++) {
                int middle = (low + high) >>> 1;
                if (placeAt(middle) < place) {
                    low = middle + 1;
                } else {
                    high = middle;
                }
            }
            return low;
        }

        private int valueOf(int place) {
            int index = locate(place);
            return placeAt(index) == place ? valueAt(index) : VOID;
        }

        private int noteOf(int place) {
            int index = locate(place);
            return placeAt(index) == place ? noteAt(index) : NONE;
        }

        private boolean add(int place, int value, int note) {
            grow();
            if (count >= places.length) {
                return false;
            }
            count++;
            put(count - 1, place, value, note);
            return true;
        }

        private void insert(int index, int place, int value, int note) {
            grow();
            if (index >= 0 && index <= count && count < places.length) {
                shift(places, index, index + 1, count - index);
                shift(values, index, index + 1, count - index);
                shift(notes, index, index + 1, count - index);
                count++;
                put(index, place, value, note);
            }
        }

        private void put(int index, int place, int value, int note) {
            if (index >= 0 && index < places.length && index < values.length && index < notes.length) {
                places[index] = place;
                values[index] = value;
                notes[index] = note;
            }
        }

        private void removeAt(int index) {
            if (index >= 0 && index < count) {
                shift(places, index + 1, index, count - index - 1);
                shift(values, index + 1, index, count - index - 1);
                shift(notes, index + 1, index, count - index - 1);
                count--;
            }
        }

        private static void shift(int[] row, int from, int to, int many) {
            if (from >= 0 && to >= 0 && many >= 0 && many <= row.length - Math.max(from, to)) {
                System.arraycopy(row, from, row, to, many);
            }
        }

        private void cut(int length) {
            count = Math.max(0, Math.min(count, length));
        }

        /** Of sorted rows: puts the value at its place; VOID takes it away. */
        private void store(int place, int value, int note) {
            int index = locate(place);
            if (placeAt(index) != place) {
                if (value != VOID) {
                    insert(index, place, value, note);
                }
            } else if (value == VOID) {
                removeAt(index);
            } else {
                put(index, place, value, note);
            }
        }

        private void copyValues(Table from) {
            cut(0);
            for (int index = 0; index < from.count; index++) {
                add(from.placeAt(index), from.valueAt(index), 0);
            }
        }

        private void grow() {
            if (count >= places.length && places.length < ROOM) {
                int length = Math.min(ROOM, places.length * 2);
                places = Arrays.copyOf(places, length);
                values = Arrays.copyOf(values, length);
                notes = Arrays.copyOf(notes, length);
            }
        }
    }

    /** A row of numbers, which grows. */
    private static final class Row {
        private int[] numbers = new int[FIRST_ROOM];
        private int count;

        private void clear() {
            count = 0;
        }

        private int at(int index) {
            return index >= 0 && index < count && index < numbers.length ? numbers[index] : VOID;
        }

        private void add(int number) {
            if (count >= numbers.length && numbers.length < ROOM) {
                numbers = Arrays.copyOf(numbers, Math.min(ROOM, numbers.length * 2));
            }
            if (count >= 0 && count < numbers.length) {
                numbers[count] = number;
                count++;
            }
        }

        private void sort() {
            for (int root = count / 2 - 1; root >= 0; root--) {
                sink(root, count);
            }
            for (int end = count - 1; end > 0; end--) {
                swap(0, end);
                sink(0, end);
            }
        }

        private void sink(int from, int end) {
            int root = from;
            for (int turn = 0; turn < 32; turn++) {
                int child = 2 * root + 1;
                if (child + 1 < end && at(child) < at(child + 1)) {
                    child++;
                }
                if (child >= end || at(root) >= at(child)) {
                    return;
                }
                swap(root, child);
                root = child;
            }
        }

        private void swap(int one, int two) {
            int kept = at(one);
            setNumber(numbers, one, at(two));
            setNumber(numbers, two, kept);
        }

        /** Of a sorted row: how many are less. */
        private int below(int number) {
            int low = 0;
            int high = count;
            for (int turn = 0; turn < 32 && low < high; turn++) {
                int middle = (low + high) >>> 1;
                if (at(middle) < number) {
                    low = middle + 1;
                } else {
                    high = middle;
                }
            }
            return low;
        }
    }

    /** Places from one to another, with both. */
    private static final class Span {
        private final int first;
        private final int last;

        private Span(int first, int last) {
            this.first = first;
            this.last = last;
        }

        private boolean covers(int place) {
            return first <= place && place <= last;
        }
    }

    /** An ACT: where its changes begin, and the SPAN that it BARRED (number NONE) or freed. */
    private static final class Act {
        private final int firstChange;
        private final Span span;
        private final int number;

        private Act(int firstChange, Span span, int number) {
            this.firstChange = firstChange;
            this.span = span;
            this.number = number;
        }
    }

    /** What is counted of READINGS. */
    private static final class Tally {
        private int count;
        private int sum;
        private int least = VOID;
        private int greatest = VOID;
        private int covered;

        private void clear() {
            count = 0;
            sum = 0;
            least = VOID;
            greatest = VOID;
            covered = 0;
        }

        private void take(int value) {
            least = count == 0 ? value : Math.min(least, value);
            greatest = Math.max(greatest, value);
            sum += value;
            count++;
        }
    }

    /** Reads a LINE; what it read is good if it answered NONE. */
    private static final class LineReader {
        private final int[] starts = new int[WORDS];
        private final int[] ends = new int[WORDS];
        private int station;
        private int day;
        private int hourOfDay;
        private int number;

        private int read(StringBuilder line) {
            int words = split(line);
            for (int word = 0; word < WORDS; word++) {
                if (word >= words || !isRight(line, word)) {
                    return word;
                }
            }
            return words > WORDS ? WORDS : NONE;
        }

        private int split(StringBuilder line) {
            int words = 0;
            boolean isBlank = true;
            for (int at = 0; at < line.length(); at++) {
                boolean wasBlank = isBlank;
                isBlank = line.charAt(at) == ' ';
                if (wasBlank && !isBlank) {
                    setNumber(starts, words, at);
                    words++;
                }
                if (!isBlank) {
                    setNumber(ends, words - 1, at + 1);
                }
            }
            return words;
        }

        private boolean isRight(StringBuilder line, int word) {
            int from = numberAt(starts, word);
            int to = numberAt(ends, word);
            switch (word) {
                case 0: return readStation(line, from, to);
                case 1: return readDate(line, from, to);
                case 2: return readHour(line, from, to);
                default: return readNumber(line, from, to);
            }
        }

        private boolean readStation(StringBuilder line, int from, int to) {
            station = digitsOf(line, from, to);
            return to - from == 1 && station >= 0 && station < STATIONS;
        }

        private boolean readDate(StringBuilder line, int from, int to) {
            if (to - from != 10 || !isSign(line, from + 4, '-') || !isSign(line, from + 7, '-')) {
                return false;
            }
            int year = digitsOf(line, from, from + 4) - FIRST_YEAR;
            int month = digitsOf(line, from + 5, from + 7) - 1;
            int date = digitsOf(line, from + 8, to) - 1;
            if (year < 0 || year >= YEARS || month < 0 || month >= YEAR_MONTHS) {
                return false;
            }
            month += year * YEAR_MONTHS;
            day = numberAt(MONTH_STARTS, month) + date;
            return date >= 0 && date < daysOf(month);
        }

        private boolean readHour(StringBuilder line, int from, int to) {
            hourOfDay = digitsOf(line, from, to);
            return to - from <= 2 && hourOfDay >= 0 && hourOfDay < DAY_HOURS;
        }

        private boolean readNumber(StringBuilder line, int from, int to) {
            boolean isNegative = isSign(line, from, '-');
            int start = isNegative ? from + 1 : from;
            boolean hasTenth = isSign(line, to - 2, '.');
            int end = hasTenth ? to - 2 : to;
            int whole = digitsOf(line, start, end);
            int tenth = hasTenth ? digitsOf(line, to - 1, to) : 0;
            if (end - start > 3 || whole < 0 || tenth < 0) {
                return false;
            }
            number = whole * 10 + tenth;
            if (isNegative) {
                number = -number;
            }
            return true;
        }

        private static boolean isSign(StringBuilder line, int at, char sign) {
            return at >= 0 && at < line.length() && line.charAt(at) == sign;
        }

        /** The number of one to four digits; NONE for anything else. */
        private static int digitsOf(StringBuilder line, int from, int to) {
            if (from < 0 || from >= to || to > line.length() || to - from > 4) {
                return NONE;
            }
            int digits = 0;
            for (int at = from; at < to; at++) {
                char sign = line.charAt(at);
                if (sign < '0' || sign > '9') {
                    return NONE;
                }
                digits = digits * 10 + (sign - '0');
            }
            return digits;
        }
    }

    /** A whole number of 128 bits (two's complement), since a FILLING does not go into a long. */
    private static final class Big {
        private long high;
        private long low;

        private void assign(long number) {
            low = number;
            high = number < 0 ? -1 : 0;
        }

        private void copy(Big other) {
            high = other.high;
            low = other.low;
        }

        private boolean isZero() {
            return high == 0 && low == 0;
        }

        private boolean isNegative() {
            return high < 0;
        }

        private boolean isEven() {
            return (low & 1) == 0;
        }

        /** Whether it is not negative and goes into a long. */
        private boolean isSmall() {
            return high == 0 && low >= 0;
        }

        /** Both without a sign. */
        private boolean isLess(Big other) {
            if (high != other.high) {
                return (high ^ TOP_BIT) < (other.high ^ TOP_BIT);
            }
            return (low ^ TOP_BIT) < (other.low ^ TOP_BIT);
        }

        private void add(Big other) {
            long sum = low + other.low;
            long carry = (sum ^ TOP_BIT) < (low ^ TOP_BIT) ? 1 : 0;
            low = sum;
            high += other.high + carry;
        }

        private void subtract(Big other) {
            long borrow = (low ^ TOP_BIT) < (other.low ^ TOP_BIT) ? 1 : 0;
            low -= other.low;
            high -= other.high + borrow;
        }

        private void negate() {
            low = -low;
            high = low == 0 ? -high : ~high;
        }

        private void twice() {
            high = high << 1 | low >>> 63;
            low <<= 1;
        }

        private void halve() {
            low = low >>> 1 | high << 63;
            high >>>= 1;
        }

        private void multiply(long factor) {
            long size = factor < 0 ? -factor : factor;
            long lowHalf = low & HALF_MASK;
            long highHalf = low >>> 32;
            long factorLow = size & HALF_MASK;
            long factorHigh = size >>> 32;
            long middle = highHalf * factorLow + (lowHalf * factorLow >>> 32);
            long other = lowHalf * factorHigh + (middle & HALF_MASK);
            high = high * size + highHalf * factorHigh + (middle >>> 32) + (other >>> 32);
            low *= size;
            if (factor < 0) {
                negate();
            }
        }

        /** Divides by 10, without a sign, and answers what is left. */
        private int takeDigit() {
            long first = high >>> 32;
            long second = first % 10 << 32 | high & HALF_MASK;
            long third = second % 10 << 32 | low >>> 32;
            long fourth = third % 10 << 32 | low & HALF_MASK;
            high = first / 10 << 32 | second / 10;
            low = third / 10 << 32 | fourth / 10;
            return (int) (fourth % 10);
        }
    }

    /** An exact fraction that is told in lowest terms. */
    private static final class Quotient {
        private final Big above = new Big();
        private final Big under = new Big();
        private final Big left = new Big();
        private final Big right = new Big();
        private final int[] digits = new int[BIG_DIGITS];

        private void tell(long newAbove, long newUnder) {
            above.assign(newAbove);
            under.assign(newUnder);
        }

        private void addProduct(long one, long two) {
            left.assign(one);
            left.multiply(two);
            above.add(left);
        }

        /** Told but once: what is written is taken out of it. The number under is above 0 everywhere here. */
        private void write(StringBuilder into) {
            if (above.isNegative()) {
                above.negate();
                into.append('-');
            }
            reduce();
            boolean isWhole = under.high == 0 && under.low == 1;
            writeDigits(above, into);
            if (!isWhole) {
                into.append('/');
                writeDigits(under, into);
            }
        }

        private void reduce() {
            if (above.isZero() || under.isZero()) {
                under.assign(1);
            } else if (above.isSmall() && under.isSmall()) {
                long divisor = commonDivisor(above.low, under.low);
                if (divisor > 1) {
                    tell(above.low / divisor, under.low / divisor);
                }
            } else {
                findDivisor();
                divide(above, right);
                divide(under, right);
            }
        }

        /** Leaves the greatest common divisor in right, by halves and differences. */
        private void findDivisor() {
            left.copy(above);
            right.copy(under);
            int twos = 0;
            while (twos < BIG_BITS && left.isEven() && right.isEven()) {
                left.halve();
                right.halve();
                twos++;
            }
            for (int turn = 0; turn < MANY_TURNS && !left.isZero(); turn++) {
                if (left.isEven()) {
                    left.halve();
                } else if (right.isEven()) {
                    right.halve();
                } else if (left.isLess(right)) {
                    right.subtract(left);
                } else {
                    left.subtract(right);
                }
            }
            for (int turn = 0; turn < twos; turn++) {
                right.twice();
            }
        }

        private void divide(Big number, Big divisor) {
            left.assign(0);
            for (int turn = 0; turn < BIG_BITS; turn++) {
                left.twice();
                if (number.isNegative()) {
                    left.low |= 1;
                }
                number.twice();
                if (!left.isLess(divisor)) {
                    left.subtract(divisor);
                    number.low |= 1;
                }
            }
        }

        private void writeDigits(Big number, StringBuilder into) {
            int many = 0;
            while (many == 0 || many < BIG_DIGITS && !number.isZero()) {
                setNumber(digits, many, number.takeDigit());
                many++;
            }
            for (int index = many - 1; index >= 0; index--) {
                into.append(numberAt(digits, index));
            }
        }
    }

    /** The combination of one or two other STATIONS, by sums over the KNOWN HOURS. */
    private static final class Fitting {
        private boolean hasTwo;
        private long known;
        private long sumX;
        private long sumY;
        private long sumZ;
        private long sumXX;
        private long sumXY;
        private long sumYY;
        private long sumXZ;
        private long sumYZ;
        /** Both numbers are first / under and second / under. */
        private final Big under = new Big();
        private final Big first = new Big();
        private final Big second = new Big();
        private final Big term = new Big();

        private void clear(boolean isTwo) {
            hasTwo = isTwo;
            known = 0;
            sumX = 0;
            sumY = 0;
            sumZ = 0;
            sumXX = 0;
            sumXY = 0;
            sumYY = 0;
            sumXZ = 0;
            sumYZ = 0;
        }

        private void take(long x, long y, long z) {
            known++;
            sumX += x;
            sumY += y;
            sumZ += z;
            sumXX += x * x;
            sumXY += x * y;
            sumYY += y * y;
            sumXZ += x * z;
            sumYZ += y * z;
        }

        /** Whether there is just one combination. */
        private boolean solve() {
            long xx = known * sumXX - sumX * sumX;
            long xz = known * sumXZ - sumX * sumZ;
            if (hasTwo) {
                long xy = known * sumXY - sumX * sumY;
                long yy = known * sumYY - sumY * sumY;
                long yz = known * sumYZ - sumY * sumZ;
                cross(under, xx, yy, xy, xy);
                cross(first, xz, yy, yz, xy);
                cross(second, xx, yz, xy, xz);
            } else {
                under.assign(xx);
                first.assign(xz);
                second.assign(0);
            }
            return !under.isZero();
        }

        private void cross(Big into, long a, long b, long c, long d) {
            into.assign(a);
            into.multiply(b);
            term.assign(c);
            term.multiply(d);
            into.subtract(term);
        }

        /** c0 is the FILLING of two zeros. */
        private void tellFilling(long x, long y, Quotient into) {
            into.above.copy(under);
            into.above.multiply(sumZ);
            term.copy(first);
            term.multiply(known * x - sumX);
            into.above.add(term);
            term.copy(second);
            term.multiply(known * y - sumY);
            into.above.add(term);
            into.under.copy(under);
            into.under.multiply(known);
        }

        private void tellFirst(Quotient into) {
            into.above.copy(first);
            into.under.copy(under);
        }

        private void tellSecond(Quotient into) {
            into.above.copy(second);
            into.under.copy(under);
        }
    }

    /** The told PARTING of a SERIES, found from its end: of each rest the best one. */
    private static final class Parting {
        private final int[] days = new int[MOST_SERIES + 1];
        /** Sums and squares of all DAY SUMS ahead. */
        private final long[] sums = new long[MOST_SERIES + 1];
        private final long[] squares = new long[MOST_SERIES + 1];
        private final long[] above = new long[MOST_SERIES + 1];
        private final long[] under = new long[MOST_SERIES + 1];
        private final int[] pieces = new int[MOST_SERIES + 1];
        private final int[] ends = new int[MOST_SERIES + 1];
        private int count;

        private void clear() {
            count = 0;
        }

        private void add(int day, long sum) {
            if (count < MOST_SERIES) {
                setNumber(days, count, day);
                setLong(sums, count + 1, longAt(sums, count) + sum);
                setLong(squares, count + 1, longAt(squares, count) + sum * sum);
                count++;
            }
        }

        private boolean isThere() {
            return count > 0 && numberAt(pieces, 0) != NONE;
        }

        private int dayAt(int index) {
            return numberAt(days, index);
        }

        private int endOf(int index) {
            return numberAt(ends, index);
        }

        private long costAbove() {
            return longAt(above, 0);
        }

        private long costUnder() {
            return longAt(under, 0);
        }

        private void solve(int price, int least) {
            setNumber(pieces, count, 0);
            setLong(above, count, 0);
            setLong(under, count, 1);
            for (int start = count - 1; start >= 0; start--) {
                setNumber(pieces, start, NONE);
                for (int end = start + least; end <= count; end++) {
                    if (numberAt(pieces, end) != NONE) {
                        offer(start, end, price);
                    }
                }
            }
        }

        /** Takes a first PIECE if it is better; ends come rising, so the earliest one stays. */
        private void offer(int start, int end, int price) {
            long many = end - start;
            long sum = longAt(sums, end) - longAt(sums, start);
            long square = longAt(squares, end) - longAt(squares, start);
            long restUnder = longAt(under, end);
            long newUnder = many * restUnder;
            long newAbove = (many * square - sum * sum) * restUnder + longAt(above, end) * many;
            newAbove += end < count ? price * newUnder : 0;
            int newPieces = numberAt(pieces, end) + 1;
            long apart = newAbove * longAt(under, start) - longAt(above, start) * newUnder;
            int oldPieces = numberAt(pieces, start);
            if (oldPieces != NONE && (apart > 0 || apart == 0 && newPieces >= oldPieces)) {
                return;
            }
            // In lowest terms the numbers under stay small, and no product leaves a long.
            long divisor = Math.max(1, commonDivisor(newAbove, newUnder));
            setLong(above, start, newAbove / divisor);
            setLong(under, start, newUnder / divisor);
            setNumber(pieces, start, newPieces);
            setNumber(ends, start, end);
        }
    }
}
