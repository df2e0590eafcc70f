import java.math.BigInteger;
import java.util.ArrayList;
import java.util.Collections;
import java.util.List;
import java.util.TreeMap;

/**
 * The document once more, as plainly as can be: every hour is looked at, every moment is kept whole,
 * fractions are of BigInteger. The random runs compare Rainledger with it.
 */
public final class PlainArchive {
    static final int VOID = -10000;
    static final int HOURS = 35064;
    static final int[] YEAR_DAYS = {366, 365, 365, 365};
    static final String SIGNS = "0123456789-. ";

    /** What an ACT may change. */
    private static final class State {
        final TreeMap<Integer, int[]> there = new TreeMap<>();
        final List<int[]> bars = new ArrayList<>();

        State copy() {
            State other = new State();
            other.there.putAll(there);
            other.bars.addAll(bars);
            return other;
        }

        boolean isBarred(int place) {
            for (int[] bar : bars) {
                if (bar[0] <= place && place <= bar[1]) {
                    return true;
                }
            }
            return false;
        }

        int standing(int place) {
            int[] one = there.get(place);
            return one == null || isBarred(place) ? VOID : one[0];
        }
    }

    private State now = new State();
    private final List<State> moments = new ArrayList<>(List.of(new State()));
    private int steps;
    private final TreeMap<Integer, Integer> other = new TreeMap<>();
    private String quarrels = "";
    private int quarrelCount;
    private final int[][] units = {{1, 1, 0}, {1, 1, 0}, {1, 1, 0}};
    private int enough = 1;
    private boolean together;
    private String typed = "";
    private int refused;

    // ---- helpers

    private static void noIndex(boolean isWrong) {
        if (isWrong) {
            throw new IndexOutOfBoundsException();
        }
    }

    private static void noArgument(boolean isWrong) {
        if (isWrong) {
            throw new IllegalArgumentException();
        }
    }

    private static void noState(boolean isWrong) {
        if (isWrong) {
            throw new IllegalStateException();
        }
    }

    private static boolean noStation(int s) {
        return s < 0 || s > 3;
    }

    private static boolean noHour(int h) {
        return h < 0 || h > 35063;
    }

    private static boolean noDay(int d) {
        return d < 0 || d > 1460;
    }

    private static boolean noValue(int v) {
        return v < -9999 || v > 9999;
    }

    private void acted() {
        moments.add(now.copy());
        steps = Math.min(8, steps + 1);
    }

    private int moment() {
        return moments.size() - 1;
    }

    private int at(int station, int hour) {
        return noHour(hour) ? VOID : now.standing(station * HOURS + hour);
    }

    /** The standing values of a span, by hours. */
    private List<Integer> listed(int station, int from, int to) {
        List<Integer> found = new ArrayList<>();
        for (int place : now.there.subMap(station * HOURS + from, true, station * HOURS + to, true).keySet()) {
            if (now.standing(place) != VOID) {
                found.add(now.standing(place));
            }
        }
        return found;
    }

    private static int sumOf(List<Integer> list) {
        int sum = 0;
        for (int v : list) {
            sum += v;
        }
        return sum;
    }

    private static String fraction(BigInteger above, BigInteger under) {
        BigInteger g = above.gcd(under);
        BigInteger a = above.divide(g);
        BigInteger u = under.divide(g);
        if (u.signum() < 0) {
            a = a.negate();
            u = u.negate();
        }
        return u.equals(BigInteger.ONE) ? a.toString() : a + "/" + u;
    }

    private static String fraction(long above, long under) {
        return fraction(BigInteger.valueOf(above), BigInteger.valueOf(under));
    }

    private static String joined(List<String> parts) {
        return String.join(" ", parts);
    }

    private static boolean isLeapYear(int year) {
        return year == 2000;
    }

    private static int lengthOfMonth(int year, int month) {
        int[] lengths = {31, isLeapYear(year) ? 29 : 28, 31, 30, 31, 30, 31, 31, 30, 31, 30, 31};
        return lengths[month - 1];
    }

    /** Year, month, day of a DAY. */
    private static int[] dateOf(int day) {
        int year = 2000;
        int month = 1;
        int left = day;
        while (left >= lengthOfMonth(year, month)) {
            left -= lengthOfMonth(year, month);
            month++;
            if (month == 13) {
                month = 1;
                year++;
            }
        }
        return new int[] {year, month, left + 1};
    }

    private static int dayOf(int year, int month, int day) {
        for (int d = 0; d <= 1460; d++) {
            int[] date = dateOf(d);
            if (date[0] == year && date[1] == month && date[2] == day) {
                return d;
            }
        }
        return -1;
    }

    // ---- acts

    public int reading(int station, int hour, int value) {
        noIndex(noStation(station) || noHour(hour));
        noArgument(noValue(value));
        noState(now.there.containsKey(station * HOURS + hour));
        now.there.put(station * HOURS + hour, new int[] {value, 0});
        acted();
        return moment();
    }

    public int row(int station, int hour, int value, int step, int many) {
        noIndex(noStation(station) || noHour(hour));
        noArgument(many < 1 || many > 48);
        noArgument(step < -500 || step > 500);
        noArgument(noValue(value) || noValue(value + step * (many - 1)));
        noArgument(noHour(hour + many - 1));
        int came = 0;
        for (int i = 0; i < many; i++) {
            if (now.there.putIfAbsent(station * HOURS + hour + i, new int[] {value + i * step, 0}) == null) {
                came++;
            }
        }
        acted();
        return came;
    }

    public int right(int station, int hour, int value, int reason) {
        noIndex(noStation(station) || noHour(hour));
        noArgument(noValue(value) || reason < 1 || reason > 4);
        noState(!now.there.containsKey(station * HOURS + hour));
        int before = now.there.put(station * HOURS + hour, new int[] {value, reason})[0];
        acted();
        return before;
    }

    public int withdraw(int station, int hour) {
        noIndex(noStation(station) || noHour(hour));
        noState(!now.there.containsKey(station * HOURS + hour));
        int before = now.there.remove(station * HOURS + hour)[0];
        acted();
        return before;
    }

    public int bar(int station, int from, int to) {
        noIndex(noStation(station) || noHour(from) || noHour(to));
        noArgument(to < from);
        noState(now.bars.size() == 6);
        int before = house(2);
        now.bars.add(new int[] {station * HOURS + from, station * HOURS + to});
        acted();
        return before - house(2);
    }

    public int free(int number) {
        noIndex(number < 0 || number >= now.bars.size());
        int before = house(2);
        now.bars.remove(number);
        acted();
        return house(2) - before;
    }

    public int undo() {
        noState(steps == 0);
        moments.remove(moments.size() - 1);
        now = moments.get(moments.size() - 1).copy();
        steps--;
        return steps;
    }

    public int lend(int station, int hour, int value) {
        noIndex(noStation(station) || noHour(hour));
        noArgument(noValue(value));
        other.put(station * HOURS + hour, value);
        return other.size();
    }

    public int join(boolean isOtherFirst) {
        List<String> found = new ArrayList<>();
        TreeMap<Integer, int[]> both = new TreeMap<>(now.there);
        for (int place : other.keySet()) {
            int lent = other.get(place);
            int[] here = now.there.get(place);
            if (here == null) {
                both.put(place, new int[] {lent, 0});
            } else if (here[0] != lent) {
                found.add(place / HOURS + ":" + place % HOURS + "=" + here[0] + "/" + lent);
                if (lent > here[0]) {
                    both.put(place, new int[] {lent, 0});
                }
            }
        }
        now.there.clear();
        now.there.putAll(both);
        other.clear();
        for (int place : both.keySet()) {
            other.put(place, both.get(place)[0]);
        }
        quarrels = joined(found);
        quarrelCount = found.size();
        acted();
        return quarrelCount;
    }

    // ---- what is told, lines

    public int unit(int unit, int above, int under, int shift) {
        noIndex(unit < 0 || unit > 2);
        noArgument(above < -99 || above > 99 || under < 1 || under > 99 || shift < -999 || shift > 999);
        units[unit] = new int[] {above, under, shift};
        return converted(unit, 100);
    }

    private int converted(int unit, int v) {
        double exact = Math.floor((double) v * units[unit][0] / units[unit][1]);
        return (int) exact + units[unit][2];
    }

    public int enough(int many) {
        noArgument(many < 1 || many > 24);
        int before = enough;
        enough = many;
        return before;
    }

    public boolean leap(boolean isTogether) {
        boolean before = together;
        together = isTogether;
        return before;
    }

    public int say(int a, int b, int c, int d, int e, int f) {
        int[] all = {a, b, c, d, e, f};
        for (int sign : all) {
            noArgument(sign < -1 || sign > 14);
        }
        String text = typed;
        for (int sign : all) {
            if (sign == 14) {
                text = "";
            } else if (sign == 13) {
                text = text.isEmpty() ? text : text.substring(0, text.length() - 1);
            } else if (sign >= 0) {
                text += SIGNS.charAt(sign);
            }
            noState(text.length() > 30);
        }
        typed = text;
        return typed.length();
    }

    /** The FAULT; tells the station, the day, the hour of the day and the number. */
    private static int wrongWord(String text, int[] told) {
        String trimmed = text.replaceAll("^ +", "");
        String[] words = trimmed.isEmpty() ? new String[0] : trimmed.split(" +");
        if (words.length < 1 || !words[0].matches("[0-3]")) {
            return 0;
        }
        told[0] = Integer.parseInt(words[0]);
        if (words.length < 2 || !words[1].matches("[0-9]{4}-[0-9]{2}-[0-9]{2}")) {
            return 1;
        }
        told[1] = dayOf(Integer.parseInt(words[1].substring(0, 4)), Integer.parseInt(words[1].substring(5, 7)),
            Integer.parseInt(words[1].substring(8)));
        if (told[1] < 0) {
            return 1;
        }
        if (words.length < 3 || !words[2].matches("[0-9]{1,2}") || Integer.parseInt(words[2]) > 23) {
            return 2;
        }
        told[2] = Integer.parseInt(words[2]);
        if (words.length < 4 || !words[3].matches("-?[0-9]{1,3}(\\.[0-9])?")) {
            return 3;
        }
        String number = words[3].contains(".") ? words[3].replace(".", "") : words[3] + "0";
        told[3] = Integer.parseInt(number);
        return words.length > 4 ? 4 : -1;
    }

    public int enter(int unit) {
        noIndex(unit < 0 || unit > 2);
        int[] told = new int[4];
        int wrong = wrongWord(typed, told);
        if (wrong >= 0) {
            return -2 - wrong;
        }
        int value = converted(unit, told[3]);
        if (noValue(value)) {
            return -9;
        }
        int place = told[0] * HOURS + told[1] * 24 + told[2];
        now.there.put(place, new int[] {value, now.there.containsKey(place) ? 1 : 0});
        typed = "";
        acted();
        return moment();
    }

    public int look() {
        return ++refused;
    }

    // ---- what is asked of readings

    public int value(int station, int hour, boolean isBarred) {
        noIndex(noStation(station) || noHour(hour));
        int[] here = now.there.get(station * HOURS + hour);
        return isBarred ? (here == null ? VOID : here[0]) : at(station, hour);
    }

    public int was(int station, int hour, int moment) {
        noIndex(noStation(station) || noHour(hour));
        noArgument(moment < 0 || moment > moment());
        return moments.get(moment).standing(station * HOURS + hour);
    }

    public int reason(int station, int hour) {
        noIndex(noStation(station) || noHour(hour));
        int[] here = now.there.get(station * HOURS + hour);
        return here == null ? -1 : here[1];
    }

    public String line(int nth) {
        noArgument(nth < 0);
        int left = nth;
        for (int place : now.there.keySet()) {
            if (now.standing(place) != VOID && left-- == 0) {
                int[] date = dateOf(place % HOURS / 24);
                int value = now.standing(place);
                return String.format("%d %04d-%02d-%02d %02d %s%d.%d", place / HOURS, date[0], date[1], date[2],
                    place % HOURS % 24, value < 0 ? "-" : "", Math.abs(value) / 10, Math.abs(value) % 10);
            }
        }
        return "!";
    }

    public String typed() {
        return typed;
    }

    public int fault() {
        return wrongWord(typed, new int[4]);
    }

    public String quarrels() {
        return quarrels;
    }

    // ---- what is asked of spans

    public int ofSpan(int station, int from, int to, int what) {
        noIndex(noStation(station) || noHour(from) || noHour(to));
        noArgument(to < from || what < 0 || what > 6);
        List<Integer> all = listed(station, from, to);
        if (what == 0) {
            return all.size();
        }
        if (what == 1) {
            return sumOf(all);
        }
        if (what == 2) {
            return all.isEmpty() ? VOID : Collections.min(all);
        }
        if (what == 3) {
            return all.isEmpty() ? VOID : Collections.max(all);
        }
        if (what == 4) {
            return to - from + 1 - all.size();
        }
        int longest = 0;
        int row = 0;
        int barred = 0;
        for (int hour = from; hour <= to; hour++) {
            row = at(station, hour) == VOID ? row + 1 : 0;
            longest = Math.max(longest, row);
            if (at(station, hour) == VOID && now.there.containsKey(station * HOURS + hour)) {
                barred++;
            }
        }
        return what == 5 ? longest : barred;
    }

    public String mean(int station, int from, int to) {
        noIndex(noStation(station) || noHour(from) || noHour(to));
        noArgument(to < from);
        return meanOf(listed(station, from, to));
    }

    private static String meanOf(List<Integer> all) {
        return all.isEmpty() ? "-" : fraction(sumOf(all), all.size());
    }

    public int rank(int station, int from, int to, int value) {
        noIndex(noStation(station) || noHour(from) || noHour(to));
        noArgument(to < from);
        int less = 0;
        for (int v : listed(station, from, to)) {
            less += v < value ? 1 : 0;
        }
        return less;
    }

    public int ranked(int station, int from, int to, int k) {
        noIndex(noStation(station) || noHour(from) || noHour(to));
        noArgument(to < from || k < 0);
        List<Integer> all = listed(station, from, to);
        Collections.sort(all);
        return k < all.size() ? all.get(k) : VOID;
    }

    public String slide(int station, int from, int wide, boolean isGreatest) {
        noIndex(noStation(station) || noHour(from));
        noArgument(wide < 1 || wide > 100);
        List<String> told = new ArrayList<>();
        for (int i = 0; i < 8; i++) {
            int best = VOID;
            for (int hour = from + i; hour < from + i + wide; hour++) {
                int v = at(station, hour);
                if (v != VOID && (best == VOID || (isGreatest ? v > best : v < best))) {
                    best = v;
                }
            }
            told.add(best == VOID ? "-" : "" + best);
        }
        return joined(told);
    }

    public String top(int stations, int from, int to, int many) {
        noIndex(noHour(from) || noHour(to));
        noArgument(stations < 0 || stations > 15 || to < from || many < 1 || many > 6);
        List<int[]> all = new ArrayList<>();
        for (int place : now.there.keySet()) {
            int hour = place % HOURS;
            if ((stations >> place / HOURS & 1) == 1 && hour >= from && hour <= to && now.standing(place) != VOID) {
                all.add(new int[] {-now.standing(place), hour, place / HOURS});
            }
        }
        all.sort((a, b) -> a[0] != b[0] ? a[0] - b[0] : a[1] != b[1] ? a[1] - b[1] : a[2] - b[2]);
        List<String> told = new ArrayList<>();
        for (int i = 0; i < Math.min(many, all.size()); i++) {
            told.add(-all.get(i)[0] + "@" + all.get(i)[1] + "/" + all.get(i)[2]);
        }
        return joined(told);
    }

    public int kept(int station, int height, int place, boolean isCount) {
        noIndex(noStation(station) || height < 0 || height > 11);
        noIndex(place < 0 || place > (int) Math.pow(2, 11 - height) - 1);
        int sum = 0;
        int many = 0;
        int wide = (int) Math.pow(2, height);
        for (int day = place * wide; day < place * wide + wide && day <= 1460; day++) {
            List<Integer> all = listed(station, day * 24, day * 24 + 23);
            sum += sumOf(all);
            many += all.size();
        }
        return isCount ? many : sum;
    }

    // ---- days and months

    public String climate(int station, int month, int day) {
        noIndex(noStation(station));
        noArgument(dayOf(2000, month, day) < 0);
        List<Integer> all = new ArrayList<>();
        for (int d = 0; d <= 1460; d++) {
            int[] date = dateOf(d);
            boolean isThat = date[1] == month && date[2] == day;
            boolean isLeap = month == 2 && date[1] == 2 && day >= 28 && date[2] >= 28;
            if (isThat || together && isLeap) {
                all.addAll(listed(station, d * 24, d * 24 + 23));
            }
        }
        return meanOf(all);
    }

    public String records(int station, boolean isHigh) {
        noIndex(noStation(station));
        List<String> told = new ArrayList<>();
        List<Integer> ahead = new ArrayList<>();
        for (int hour = 0; hour < HOURS; hour++) {
            int v = at(station, hour);
            if (v == VOID) {
                continue;
            }
            if (ahead.isEmpty() || (isHigh ? v > Collections.max(ahead) : v < Collections.min(ahead))) {
                told.add("" + hour);
            }
            ahead.add(v);
        }
        return told.isEmpty() ? "-" : joined(told);
    }

    private boolean isFull(int station, int day) {
        return listed(station, day * 24, day * 24 + 23).size() >= enough;
    }

    private int daySum(int station, int day) {
        return sumOf(listed(station, day * 24, day * 24 + 23));
    }

    public String runs(int station, int from, int to, int bound, int least) {
        noIndex(noStation(station) || noDay(from) || noDay(to));
        noArgument(to < from || least < 1);
        List<String> told = new ArrayList<>();
        int first = -1;
        for (int day = from; day <= to + 1; day++) {
            boolean isIn = day <= to && isFull(station, day) && daySum(station, day) <= bound;
            if (isIn && first < 0) {
                first = day;
            }
            if (!isIn && first >= 0) {
                if (day - first >= least) {
                    told.add(first + "-" + (day - 1));
                }
                first = -1;
            }
        }
        return joined(told);
    }

    public int frost(int station, int year, int bound, boolean isFirst) {
        noIndex(noStation(station));
        noArgument(year < 2000 || year > 2003);
        int found = -1;
        for (int day = dayOf(year, 1, 1); day <= dayOf(year, 12, 31); day++) {
            for (int v : listed(station, day * 24, day * 24 + 23)) {
                if (v <= bound && (found < 0 || !isFirst)) {
                    found = day;
                }
            }
        }
        return found;
    }

    public String degrees(int station, int from, int to, int base) {
        noIndex(noStation(station) || noDay(from) || noDay(to));
        noArgument(to < from);
        BigInteger above = BigInteger.ZERO;
        BigInteger under = BigInteger.ONE;
        for (int day = from; day <= to; day++) {
            int many = listed(station, day * 24, day * 24 + 23).size();
            long over = daySum(station, day) - (long) base * many;
            if (many >= enough && over > 0) {
                above = above.multiply(BigInteger.valueOf(many)).add(under.multiply(BigInteger.valueOf(over)));
                under = under.multiply(BigInteger.valueOf(many));
                BigInteger g = above.gcd(under);
                above = above.divide(g);
                under = under.divide(g);
            }
        }
        return fraction(above, under);
    }

    private static int firstOfMonth(int month) {
        return dayOf(2000 + month / 12, month % 12 + 1, 1);
    }

    public int month(int station, int month, int what) {
        noIndex(noStation(station) || month < 0 || month > 47);
        noArgument(what < 0 || what > 5);
        int first = firstOfMonth(month);
        int days = lengthOfMonth(2000 + month / 12, month % 12 + 1);
        int full = 0;
        int greatest = VOID;
        for (int day = first; day < first + days; day++) {
            if (isFull(station, day)) {
                greatest = full == 0 ? daySum(station, day) : Math.max(greatest, daySum(station, day));
                full++;
            }
        }
        List<Integer> all = listed(station, first * 24, (first + days) * 24 - 1);
        return new int[] {full, days - full <= 3 ? 1 : 0, all.size(), sumOf(all), greatest, days}[what];
    }

    public String beside(int station, int month, int other) {
        noIndex(noStation(station) || month < 0 || month > 47 || other < 0 || other > 47);
        long a = month(station, month, 3);
        long b = month(station, month, 2);
        long c = month(station, other, 3);
        long d = month(station, other, 2);
        return b == 0 || d == 0 ? "-" : fraction(a * d - c * b, b * d);
    }

    // ---- breaks

    /** A parting of the first days: its cost, and where the pieces end. */
    private static final class Cut {
        BigInteger above = BigInteger.ZERO;
        BigInteger under = BigInteger.ONE;
        List<Integer> begins = new ArrayList<>();

        boolean isBetterThan(Cut old) {
            if (old == null) {
                return true;
            }
            int apart = above.multiply(old.under).compareTo(old.above.multiply(under));
            if (apart != 0) {
                return apart < 0;
            }
            if (begins.size() != old.begins.size()) {
                return begins.size() < old.begins.size();
            }
            for (int i = 0; i < begins.size(); i++) {
                if (!begins.get(i).equals(old.begins.get(i))) {
                    return begins.get(i) < old.begins.get(i);
                }
            }
            return false;
        }
    }

    private Cut cut(int station, int from, int to, int price, int least, List<Integer> days) {
        for (int day = from; day <= to; day++) {
            if (isFull(station, day)) {
                days.add(day);
            }
        }
        Cut[] best = new Cut[days.size() + 1];
        best[0] = new Cut();
        for (int end = 1; end <= days.size(); end++) {
            for (int begin = 0; begin <= end - least; begin++) {
                if (best[begin] == null) {
                    continue;
                }
                long many = end - begin;
                BigInteger sum = BigInteger.ZERO;
                BigInteger square = BigInteger.ZERO;
                for (int i = begin; i < end; i++) {
                    BigInteger v = BigInteger.valueOf(daySum(station, days.get(i)));
                    sum = sum.add(v);
                    square = square.add(v.multiply(v));
                }
                BigInteger count = BigInteger.valueOf(many);
                Cut next = new Cut();
                BigInteger own = square.multiply(count).subtract(sum.multiply(sum));
                own = own.add(BigInteger.valueOf(begin > 0 ? price : 0).multiply(count));
                next.above = best[begin].above.multiply(count).add(own.multiply(best[begin].under));
                next.under = best[begin].under.multiply(count);
                next.begins.addAll(best[begin].begins);
                next.begins.add(begin);
                if (next.isBetterThan(best[end])) {
                    best[end] = next;
                }
            }
        }
        return days.isEmpty() ? null : best[days.size()];
    }

    private static void partingIsRight(int station, int from, int to, int price, int least) {
        noIndex(noStation(station) || noDay(from) || noDay(to));
        noArgument(to < from || to > from + 23 || price < 0 || price > 99999 || least < 1 || least > 4);
    }

    public String breaks(int station, int from, int to, int price, int least) {
        partingIsRight(station, from, to, price, least);
        List<Integer> days = new ArrayList<>();
        Cut told = cut(station, from, to, price, least, days);
        if (told == null) {
            return "-";
        }
        List<String> parts = new ArrayList<>();
        for (int i = 1; i < told.begins.size(); i++) {
            parts.add("" + days.get(told.begins.get(i)));
        }
        return joined(parts);
    }

    public String breakCost(int station, int from, int to, int price, int least) {
        partingIsRight(station, from, to, price, least);
        Cut told = cut(station, from, to, price, least, new ArrayList<>());
        return told == null ? "-" : fraction(told.above, told.under);
    }

    // ---- fillings

    private static void fittingIsRight(int station, int others, int from, int to, int hour) {
        noIndex(noStation(station) || noHour(from) || noHour(to) || noHour(hour));
        noArgument(others < 1 || others > 15 || Integer.bitCount(others) > 2 || (others >> station & 1) == 1);
        noArgument(to < from || to > from + 999);
    }

    private static List<Integer> members(int set) {
        List<Integer> found = new ArrayList<>();
        for (int i = 0; i < 4; i++) {
            if ((set >> i & 1) == 1) {
                found.add(i);
            }
        }
        return found;
    }

    /** Normal equations, solved without division: each column is above[k] / under; null if there is not just one. */
    private BigInteger[] solved(int station, int others, int from, int to, int hour) {
        List<Integer> set = members(others);
        int size = set.size() + 1;
        BigInteger[][] m = new BigInteger[size][size + 1];
        for (BigInteger[] r : m) {
            java.util.Arrays.fill(r, BigInteger.ZERO);
        }
        for (int h = from; h <= to; h++) {
            int[] v = new int[size + 1];
            v[0] = 1;
            v[size] = at(station, h);
            boolean isKnown = h != hour && v[size] != VOID;
            for (int i = 0; i < set.size(); i++) {
                v[i + 1] = at(set.get(i), h);
                isKnown &= v[i + 1] != VOID;
            }
            for (int i = 0; i < size && isKnown; i++) {
                for (int j = 0; j <= size; j++) {
                    m[i][j] = m[i][j].add(BigInteger.valueOf((long) v[i] * v[j]));
                }
            }
        }
        for (int col = 0; col < size; col++) {
            int pivot = col;
            while (pivot < size && m[pivot][col].signum() == 0) {
                pivot++;
            }
            if (pivot == size) {
                return null;
            }
            BigInteger[] swap = m[pivot];
            m[pivot] = m[col];
            m[col] = swap;
            for (int r = 0; r < size; r++) {
                if (r == col) {
                    continue;
                }
                BigInteger factor = m[r][col];
                BigInteger base = m[col][col];
                for (int j = 0; j <= size; j++) {
                    m[r][j] = m[r][j].multiply(base).subtract(m[col][j].multiply(factor));
                }
            }
        }
        BigInteger[] told = new BigInteger[2 * size];
        for (int i = 0; i < size; i++) {
            told[2 * i] = m[i][size];
            told[2 * i + 1] = m[i][i];
        }
        return told;
    }

    public String fill(int station, int others, int from, int to, int hour) {
        fittingIsRight(station, others, from, to, hour);
        List<Integer> set = members(others);
        for (int s : set) {
            if (at(s, hour) == VOID) {
                return "-";
            }
        }
        BigInteger[] told = solved(station, others, from, to, hour);
        if (told == null) {
            return "-";
        }
        BigInteger above = told[0];
        BigInteger under = told[1];
        for (int i = 0; i < set.size(); i++) {
            BigInteger v = BigInteger.valueOf(at(set.get(i), hour));
            above = above.multiply(told[2 * i + 3]).add(told[2 * i + 2].multiply(v).multiply(under));
            under = under.multiply(told[2 * i + 3]);
        }
        return fraction(above, under);
    }

    public String combination(int station, int others, int from, int to, int hour) {
        fittingIsRight(station, others, from, to, hour);
        BigInteger[] told = solved(station, others, from, to, hour);
        if (told == null) {
            return "-";
        }
        List<String> parts = new ArrayList<>();
        for (int i = 0; i < told.length; i += 2) {
            parts.add(fraction(told[i], told[i + 1]));
        }
        return joined(parts);
    }

    public int slip(int station, int hour, int others, int bound) {
        noIndex(noStation(station) || noHour(hour));
        noArgument(others < 0 || others > 15 || (others >> station & 1) == 1 || bound < 0);
        long sum = 0;
        long many = 0;
        for (int s : members(others)) {
            if (at(s, hour) != VOID) {
                sum += at(s, hour);
                many++;
            }
        }
        if (many == 0 || at(station, hour) == VOID) {
            return -1;
        }
        BigInteger apart = BigInteger.valueOf(at(station, hour) * many - sum).abs();
        return apart.compareTo(BigInteger.valueOf(bound).multiply(BigInteger.valueOf(many))) > 0 ? 1 : 0;
    }

    public String rose(int station, int from, int to, int parts) {
        noIndex(noStation(station) || noHour(from) || noHour(to));
        noArgument(to < from || parts < 2 || parts > 8);
        int[] many = new int[parts];
        for (int v : listed(station, from, to)) {
            many[((v % 360) + 360) % 360 * parts / 360]++;
        }
        List<String> told = new ArrayList<>();
        for (int m : many) {
            told.add("" + m);
        }
        return joined(told);
    }

    public int pairs(int station, int other, int from, int to) {
        noIndex(noStation(station) || noStation(other) || noHour(from) || noHour(to));
        noArgument(to < from);
        int found = 0;
        List<Integer> there = listed(other, from, to);
        for (int a : listed(station, from, to)) {
            for (int b : there) {
                found += Integer.compare(b, a);
            }
        }
        return found;
    }

    // ---- all

    public int house(int what) {
        noArgument(what < 0 || what > 9);
        int stand = 0;
        for (int place : now.there.keySet()) {
            stand += now.standing(place) != VOID ? 1 : 0;
        }
        return new int[] {moment(), now.there.size(), stand, now.bars.size(), enough, typed.length(), other.size(),
            steps, quarrelCount, refused}[what];
    }

    public boolean isSound() {
        return true;
    }

    public long digest() {
        List<Long> all = new ArrayList<>();
        for (int what = 0; what <= 9; what++) {
            all.add((long) house(what));
        }
        for (int s = 0; s < 4; s++) {
            for (int what : new int[] {0, 1, 2, 3, 6}) {
                all.add((long) ofSpan(s, 0, 35063, what));
            }
            all.add((long) mean(s, 0, 35063).length());
            all.add((long) ranked(s, 0, 35063, 0));
            all.add((long) kept(s, 11, 0, false));
            all.add((long) kept(s, 11, 0, true));
            all.add((long) kept(s, 5, 0, false));
            all.add((long) kept(s, 5, 0, true));
            all.add((long) records(s, true).length());
            all.add((long) records(s, false).length());
            for (int what = 0; what <= 4; what++) {
                all.add((long) month(s, 0, what));
            }
        }
        all.add((long) pairs(0, 1, 0, 35063));
        all.add((long) top(15, 0, 35063, 3).length());
        all.add((long) line(0).length());
        all.add((long) typed().length());
        all.add((long) quarrels().length());
        all.add((long) fault());
        all.add(1L);
        long d = 6133;
        for (long v : all) {
            d = d * 31 + v;
        }
        return d;
    }
}
