import java.time.LocalDate;
import java.time.YearMonth;
import java.time.temporal.ChronoUnit;
import java.time.temporal.IsoFields;
import java.util.Arrays;
import java.util.Comparator;
import java.util.TreeSet;

/**
 * The document once more, written another way and slowly, over java.time: what DateSpans answers is
 * held against what this answers. A call that tells a row leaves it in {@link #row}.
 */
final class Model {
    static final int LAST = 3652058;
    private static final LocalDate ORIGIN = LocalDate.of(1, 1, 1);

    long[] moments = new long[8];
    int[][] spans = new int[8][3];
    long[] row = new long[0];
    String text = "";
    private long[] keptMoments = null;
    private int[][] keptSpans = null;

    // ---- what there is

    private static boolean slot(int i) {
        return i >= 0 && i <= 7;
    }

    private static boolean slots(int... all) {
        return Arrays.stream(all).allMatch(Model::slot);
    }

    private static boolean in(long n, long low, long high) {
        return n >= low && n <= high;
    }

    static LocalDate dateOf(long day) {
        return ORIGIN.plusDays(day);
    }

    static int dayOf(LocalDate date) {
        return (int) ChronoUnit.DAYS.between(ORIGIN, date);
    }

    private int dayAt(int i) {
        return (int) (moments[i] / 86400);
    }

    private int secondAt(int i) {
        return (int) (moments[i] % 86400);
    }

    private void tell(long... numbers) {
        row = numbers;
    }

    private static boolean bounded(long... numbers) {
        return Arrays.stream(numbers).allMatch(n -> in(n, -1000000000L, 1000000000L));
    }

    private static long[] times(int[] span, long k) {
        return new long[] {span[0] * k, span[1] * k, span[2] * k};
    }

    private static long[] wide(int[] span) {
        return times(span, 1);
    }

    // ---- a span added: the instant and SHORT, or null

    static long[] added(long instant, long[] span, int law, int order) {
        long[] at = {instant, 0};
        boolean stands = order == 0
                ? months(at, span[0], law) && days(at, span[1]) && seconds(at, span[2])
                : seconds(at, span[2]) && days(at, span[1]) && months(at, span[0], law);
        return stands ? at : null;
    }

    private static boolean seconds(long[] at, long seconds) {
        at[0] += seconds;
        return in(at[0], 0, (LAST + 1) * 86400L - 1);
    }

    private static boolean days(long[] at, long days) {
        return seconds(at, days * 86400);
    }

    private static boolean months(long[] at, long months, int law) {
        if (months == 0) {
            return true;
        }
        LocalDate date = dateOf(at[0] / 86400);
        YearMonth goal = YearMonth.from(date).plusMonths(months);
        if (goal.getYear() < 1 || goal.getYear() > 9999) {
            return false;
        }
        int dom = date.getDayOfMonth();
        int tooShort = Math.max(0, dom - goal.lengthOfMonth());
        LocalDate to = goal.atDay(Math.min(dom, goal.lengthOfMonth()));
        if (law == 1) {
            to = to.plusDays(tooShort);
        } else if (law == 2 && dom == date.lengthOfMonth()) {
            to = goal.atEndOfMonth();
        } else if (law == 3 && tooShort > 0) {
            return false;
        }
        at[0] = dayOf(to) * 86400L + at[0] % 86400;
        at[1] = tooShort;
        return true;
    }

    // ---- moments, spans

    int sign(int v) {
        if (text.length() > 96) {
            return -1;
        }
        for (int shift = 24; shift >= 0; shift -= 8) {
            text += (char) (v >> shift & 255);
        }
        return text.length();
    }

    boolean end(int n) {
        if (n < 0 || n > text.length()) {
            return false;
        }
        text = text.substring(0, n);
        return true;
    }

    private static boolean isMoment(String t) {
        if (!t.matches("\\d{4}-\\d\\d-\\d\\d(T([01]\\d|2[0-3]):[0-5]\\d:[0-5]\\d)?")) {
            return false;
        }
        try {
            return LocalDate.parse(t.substring(0, 10)).getYear() > 0;
        } catch (java.time.DateTimeException e) {
            return false;
        }
    }

    /** Whether some moment's text begins so: some way to go on makes it whole. */
    private static boolean beginsMoment(String t) {
        for (String whole : new String[] {"0001-01-01T00:00:00", "0000-00-00T00:00:00"}) {
            if (t.length() <= 19 && isMoment(t + whole.substring(t.length()))) {
                return true;
            }
        }
        return false;
    }

    private static final String NUMBER = "-?(0|[1-9][0-9]{0,4})";

    private static boolean isSpan(String t) {
        StringBuilder form = new StringBuilder("(?s)(?=.)");
        for (char unit : "ymwdhis".toCharArray()) {
            form.append('(').append(NUMBER).append(unit).append(")?");
        }
        return t.matches(form.toString());
    }

    private static boolean beginsSpan(String t) {
        return isSpan(t) || isSpan(t + "s") || isSpan(t + "0s");
    }

    private static int wrongAt(String t, boolean moment) {
        for (int p = 0; p < t.length(); p++) {
            String begin = t.substring(0, p + 1);
            if (!(moment ? beginsMoment(begin) : beginsSpan(begin))) {
                return p;
            }
        }
        return (moment ? isMoment(t) : isSpan(t)) ? -1 : t.length();
    }

    int moment(int i) {
        String t = text;
        text = "";
        int wrong = wrongAt(t, true);
        if (wrong >= 0) {
            return -21 - wrong;
        }
        if (!slot(i)) {
            return -1;
        }
        int day = dayOf(LocalDate.parse(t.substring(0, 10)));
        int second = t.length() > 10 ? java.time.LocalTime.parse(t.substring(11)).toSecondOfDay() : 0;
        moments[i] = day * 86400L + second;
        return day;
    }

    int sets(int i, int day, int second) {
        if (!slot(i) || !in(day, 0, LAST) || !in(second, 0, 86399)) {
            return -1;
        }
        int was = dayAt(i);
        moments[i] = day * 86400L + second;
        return was;
    }

    int span(int s) {
        String t = text;
        text = "";
        int wrong = wrongAt(t, false);
        if (wrong >= 0) {
            return -21 - wrong;
        }
        if (!slot(s)) {
            return -1;
        }
        int[] numbers = new int[7];
        java.util.regex.Matcher m = java.util.regex.Pattern.compile("(-?\\d+)([a-z])").matcher(t);
        while (m.find()) {
            numbers["ymwdhis".indexOf(m.group(2))] = Integer.parseInt(m.group(1));
        }
        return comes(s, 12L * numbers[0] + numbers[1], 7L * numbers[2] + numbers[3],
                3600L * numbers[4] + 60L * numbers[5] + numbers[6]);
    }

    private int comes(int to, long... span) {
        if (!bounded(span)) {
            return -9;
        }
        for (int k = 0; k < 3; k++) {
            spans[to][k] = (int) span[k];
        }
        tell(span);
        return (int) span[0];
    }

    boolean parts(int s, int months, int days, int seconds) {
        if (!slot(s) || !bounded(months, days, seconds)) {
            return false;
        }
        spans[s] = new int[] {months, days, seconds};
        return true;
    }

    int momentIs(int i, int what) {
        if (!slot(i) || !in(what, 0, 6)) {
            return -1;
        }
        LocalDate date = dateOf(dayAt(i));
        int[] all = {dayAt(i), secondAt(i), date(dayAt(i)), date.getDayOfWeek().getValue() - 1,
            date.getDayOfYear(), date.lengthOfMonth(), date.isLeapYear() ? 1 : 0};
        return all[what];
    }

    int spanIs(int s, int what) {
        return slot(s) && in(what, 0, 2) ? spans[s][what] : -2000000000;
    }

    int date(int day) {
        if (!in(day, 0, LAST)) {
            return -1;
        }
        LocalDate d = dateOf(day);
        return d.getYear() * 10000 + d.getMonthValue() * 100 + d.getDayOfMonth();
    }

    int day(int date) {
        try {
            int day = dayOf(LocalDate.of(date / 10000, date / 100 % 100, date % 100));
            return in(day, 0, LAST) ? day : -2;
        } catch (java.time.DateTimeException e) {
            return -2;
        }
    }

    int week(int day) {
        if (!in(day, 0, LAST)) {
            return -1;
        }
        tell(dateOf(day).get(IsoFields.WEEK_BASED_YEAR));
        return dateOf(day).get(IsoFields.WEEK_OF_WEEK_BASED_YEAR);
    }

    // ---- adding

    int add(int i, int s, int law, int order, int to) {
        return steps(i, s, law, order, 1, to, true);
    }

    int steps(int i, int s, int law, int order, int n, int to) {
        return steps(i, s, law, order, n, to, false);
    }

    private int steps(int i, int s, int law, int order, int n, int to, boolean tellsShort) {
        if (!slots(i, s, to) || !in(law, 0, 3) || !in(order, 0, 1) || !in(n, 0, 10000)) {
            return -1;
        }
        long at = moments[i];
        long tooShort = 0;
        for (int k = 0; k < n; k++) {
            long[] next = added(at, wide(spans[s]), law, order);
            if (next == null) {
                return -2;
            }
            at = next[0];
            tooShort += tellsShort ? next[1] : Math.min(next[1], 1);
        }
        moments[to] = at;
        tell(at % 86400, tooShort);
        return (int) (at / 86400);
    }

    int sum(int a, int b, int to) {
        if (!slots(a, b, to)) {
            return -1;
        }
        return comes(to, (long) spans[a][0] + spans[b][0], (long) spans[a][1] + spans[b][1],
                (long) spans[a][2] + spans[b][2]);
    }

    int turn(int a, int to) {
        return slots(a, to) ? comes(to, times(spans[a], -1)) : -1;
    }

    int mult(int a, int k, int to) {
        return slots(a, to) ? comes(to, times(spans[a], k)) : -1;
    }

    int even(int a, int to) {
        if (!slots(a, to)) {
            return -1;
        }
        long whole = Math.abs((long) spans[a][2]) / 86400 * Integer.signum(spans[a][2]);
        return comes(to, spans[a][0], spans[a][1] + whole, spans[a][2] - 86400 * whole);
    }

    // ---- differences

    int between(int a, int b, int law, int units, int to) {
        if (!slots(a, b, to) || !in(law, 0, 3) || !in(units, 1, 7)) {
            return -1;
        }
        long months = units == 4 ? 0
                : mostMonths(moments[a], moments[b], law, (units & 2) != 0 ? 1 : 12);
        long at = added(moments[a], new long[] {months, 0, 0}, law, 0)[0];
        long days = (units & 4) == 0 ? 0 : (moments[b] - at) / 86400;
        long seconds = moments[b] - at - 86400 * days;
        int answer = comes(to, months, days, seconds);
        long[] back = added(moments[b], new long[] {-months, -days, -seconds}, law, 0);
        tell(months, days, seconds, back != null && back[0] == moments[a] ? 1 : 0);
        return answer;
    }

    private static long mostMonths(long from, long goal, int law, int step) {
        int way = goal < from ? -1 : 1;
        long apart = Math.abs(goal - from) / (28 * 86400L) + 40;
        long most = 0;
        for (long n = 0; n <= apart; n += step) {
            long[] at = added(from, new long[] {way * n, 0, 0}, law, 0);
            if (at != null && (way > 0 ? at[0] <= goal : at[0] >= goal)) {
                most = way * n;
            }
        }
        return most;
    }

    int least(int a, int b, int law) {
        if (!slots(a, b) || !in(law, 0, 3)) {
            return -1;
        }
        long from = dayAt(a) * 86400L;
        long goal = dayAt(b) * 86400L;
        int way = goal < from ? -1 : 1;
        long most = Math.abs(mostMonths(from, goal, law, 1)) + 12;
        long best = Long.MAX_VALUE;
        for (long n = most; n >= 0; n--) {
            long[] at = added(from, new long[] {way * n, 0, 0}, law, 0);
            if (at == null) {
                continue;
            }
            long days = (goal - at[0]) / 86400;
            long size = n / 12 + n % 12 + Math.abs(days) / 7 + Math.abs(days) % 7;
            if (size <= best) {
                best = size;
                tell(way * n, days);
            }
        }
        return (int) best;
    }

    int age(int a, int b) {
        if (!slots(a, b)) {
            return -1;
        }
        LocalDate from = dateOf(dayAt(a));
        LocalDate to = dateOf(dayAt(b));
        int years = 0;
        while (!from.plusYears(years + 1).isAfter(to)) {
            years++;
        }
        LocalDate next = from.plusYears(years + 1);
        tell(ChronoUnit.DAYS.between(from.plusYears(years), to),
                next.getYear() > 9999 ? -2 : ChronoUnit.DAYS.between(to, next));
        return years;
    }

    // ---- spans compared

    int compare(int s, int t, int law) {
        if (!slots(s, t) || !in(law, 0, 3)) {
            return -1;
        }
        long[] all = {0, 0, 0, -1, -1, -1};
        for (int day = 730119; day < 730119 + 146097; day++) {
            long[] one = added(day * 86400L, wide(spans[s]), law, 0);
            long[] two = added(day * 86400L, wide(spans[t]), law, 0);
            if (one != null && two != null) {
                int kind = one[0] < two[0] ? 0 : one[0] == two[0] ? 1 : 2;
                all[kind]++;
                all[kind + 3] = all[kind + 3] < 0 ? day : all[kind + 3];
            }
        }
        row = all;
        return (all[0] > 0 ? 1 : 0) + (all[1] > 0 ? 2 : 0) + (all[2] > 0 ? 4 : 0);
    }

    long lasts(int s, int law) {
        if (!slot(s) || !in(law, 0, 3)) {
            return -1;
        }
        java.util.TreeMap<Long, Integer> first = new java.util.TreeMap<>();
        for (int day = 730119; day < 730119 + 146097; day++) {
            long[] at = added(day * 86400L, wide(spans[s]), law, 0);
            if (at != null) {
                first.putIfAbsent(at[0] - day * 86400L, day);
            }
        }
        if (first.isEmpty()) {
            return -2;
        }
        tell(first.firstKey(), first.lastKey(), first.firstEntry().getValue(),
                first.lastEntry().getValue(), first.size());
        return first.firstKey();
    }

    /** Both instants, or null if one can't be added. */
    private long[] both(int what, int s, int t, int law, int day) {
        long start = day * 86400L;
        long[] one = wide(spans[s]);
        long[] two = wide(spans[t]);
        Long left;
        Long right;
        switch (what) {
            case 0:
                left = chain(start, one, two, law);
                right = chain(start, two, one, law);
                break;
            case 1:
                left = chain(start, one, times(spans[s], -1), law);
                right = start;
                break;
            case 2:
                left = chain(start, one, one, law);
                right = chain(start, times(spans[s], 2), new long[3], law);
                break;
            default:
                left = chain(start, one, new long[3], law);
                long[] other = added(start, one, law, 1);
                right = other == null ? null : (Long) other[0];
                break;
        }
        return left == null || right == null ? null : new long[] {left, right};
    }

    private static Long chain(long start, long[] one, long[] two, int law) {
        long[] at = added(start, one, law, 0);
        at = at == null ? null : added(at[0], two, law, 0);
        return at == null ? null : (Long) at[0];
    }

    int fails(int what, int s, int t, int law, int day) {
        if (!in(what, 0, 3) || !slots(s, t) || !in(law, 0, 3) || !in(day, 0, LAST)) {
            return -1;
        }
        if (what == 2 && !bounded(times(spans[s], 2))) {
            return -9;
        }
        for (int d = day; d < day + 146097 && d <= LAST; d++) {
            long[] both = both(what, s, t, law, d);
            if (both != null && both[0] != both[1]) {
                row = both;
                return d;
            }
        }
        return -2;
    }

    int often(int what, int s, int t, int law) {
        if (!in(what, 0, 3) || !slots(s, t) || !in(law, 0, 3)) {
            return -1;
        }
        if (what == 2 && !bounded(times(spans[s], 2))) {
            return -9;
        }
        int count = 0;
        long most = 0;
        long first = -1;
        for (int d = 730119; d < 730119 + 146097; d++) {
            long[] both = both(what, s, t, law, d);
            if (both != null && both[0] != both[1]) {
                count++;
                if (Math.abs(both[0] - both[1]) > most) {
                    most = Math.abs(both[0] - both[1]);
                    first = d;
                }
            }
        }
        tell(most, first);
        return count;
    }

    // ---- steps and turns

    private Long atOnce(int i, int s, int law, int k) {
        long[] span = times(spans[s], k);
        long[] at = bounded(span) ? added(moments[i], span, law, 0) : null;
        return at == null ? null : (Long) at[0];
    }

    long drift(int i, int s, int law, int n) {
        if (!slots(i, s) || !in(law, 0, 3) || !in(n, 0, 1000)) {
            return -1;
        }
        if (!bounded(times(spans[s], n))) {
            return -1000009;
        }
        Long once = atOnce(i, s, law, n);
        long[] at = {moments[i], 0};
        for (int k = 0; k < n && at != null; k++) {
            at = added(at[0], wide(spans[s]), law, 0);
        }
        if (once == null || at == null) {
            return -1000002;
        }
        tell(at[0], once);
        return at[0] - once;
    }

    long runs(int i, int s, int law, int n) {
        if (!slots(i, s) || !in(law, 0, 3) || !in(n, 1, 1000)) {
            return -1;
        }
        if (!bounded(times(spans[s], n))) {
            return -1000009;
        }
        long[] gaps = new long[n];
        for (int k = 0; k < n; k++) {
            Long one = atOnce(i, s, law, k);
            Long two = atOnce(i, s, law, k + 1);
            if (one == null || two == null) {
                return -1000002;
            }
            gaps[k] = two - one;
        }
        long fewest = Arrays.stream(gaps).min().getAsLong();
        long most = Arrays.stream(gaps).max().getAsLong();
        tell(most, indexOf(gaps, fewest), indexOf(gaps, most));
        return fewest;
    }

    private static int indexOf(long[] all, long one) {
        int k = 0;
        while (all[k] != one) {
            k++;
        }
        return k;
    }

    int next(int i, int s, int law, int j) {
        if (!slots(i, s, j) || !in(law, 0, 3)) {
            return -1;
        }
        for (int k = 0; k <= 10000; k++) {
            Long at = atOnce(i, s, law, k);
            if (at != null && at >= moments[j]) {
                tell(at / 86400, at % 86400);
                return k;
            }
        }
        return -2;
    }

    int falls(int i, int s, int law, int n, int weekday) {
        if (!slots(i, s) || !in(law, 0, 3) || !in(n, 0, 1000) || !in(weekday, 0, 6)) {
            return -1;
        }
        int count = 0;
        int first = -1;
        for (int k = n; k >= 0; k--) {
            Long at = atOnce(i, s, law, k);
            if (at != null && dateOf(at / 86400).getDayOfWeek().getValue() - 1 == weekday) {
                count++;
                first = k;
            }
        }
        tell(first);
        return count;
    }

    int nth(int year, int month, int weekday, int n) {
        if (!in(year, 1, 9999) || !in(month, 1, 12) || !in(weekday, 0, 6) || !in(n, -5, 5) || n == 0) {
            return -1;
        }
        TreeSet<Integer> days = new TreeSet<>();
        YearMonth all = YearMonth.of(year, month);
        for (int d = 1; d <= all.lengthOfMonth(); d++) {
            if (all.atDay(d).getDayOfWeek().getValue() - 1 == weekday) {
                days.add(dayOf(all.atDay(d)));
            }
        }
        Integer[] told = days.toArray(new Integer[0]);
        int at = n > 0 ? n - 1 : told.length + n;
        return in(at, 0, told.length - 1) ? told[at] : -2;
    }

    int workdays(int a, int b) {
        if (!slots(a, b)) {
            return -1;
        }
        long[] each = new long[7];
        for (int d = Math.min(dayAt(a), dayAt(b)); d < Math.max(dayAt(a), dayAt(b)); d++) {
            each[d % 7]++;
        }
        row = each;
        long work = each[0] + each[1] + each[2] + each[3] + each[4];
        return (int) (dayAt(b) < dayAt(a) ? -work : work);
    }

    int shifts(int i, int n, int to) {
        if (!slots(i, to) || !in(n, -10000, 10000)) {
            return -1;
        }
        int day = dayAt(i);
        int gone = 0;
        int passed = 0;
        while (gone != Math.abs(n)) {
            day += Integer.signum(n);
            if (!in(day, 0, LAST)) {
                return -2;
            }
            if (dateOf(day).getDayOfWeek().getValue() > 5) {
                passed++;
            } else {
                gone++;
            }
        }
        moments[to] = day * 86400L + secondAt(i);
        tell(passed);
        return day;
    }

    long overlaps(int a, int b, int c, int d) {
        if (!slots(a, b, c, d)) {
            return -1;
        }
        long[] one = {moments[a], moments[b]};
        long[] two = {moments[c], moments[d]};
        Arrays.sort(one);
        Arrays.sort(two);
        long[] early = one[0] <= two[0] ? one : two;
        long[] late = one[0] <= two[0] ? two : one;
        tell(late[0], early[1] < late[0] ? late[0] - early[1] : 0);
        return early[1] < late[0] ? 0 : Math.min(early[1], late[1]) - late[0];
    }

    int leaps(int a, int b) {
        if (!slots(a, b)) {
            return -1;
        }
        LocalDate from = dateOf(Math.min(dayAt(a), dayAt(b)));
        LocalDate to = dateOf(Math.max(dayAt(a), dayAt(b)));
        TreeSet<Integer> all = new TreeSet<>();
        for (int y = from.getYear(); y <= to.getYear(); y++) {
            LocalDate end = YearMonth.of(y, 2).atEndOfMonth();
            if (end.getDayOfMonth() == 29 && !end.isBefore(from) && !end.isAfter(to)) {
                all.add(dayOf(end));
            }
        }
        tell(all.isEmpty() ? -1 : all.first(), all.isEmpty() ? -1 : all.last());
        return all.size();
    }

    int again(int i, int n) {
        if (!slot(i) || !in(n, 1, 100)) {
            return -1;
        }
        LocalDate date = dateOf(dayAt(i));
        int left = n;
        for (int y = 1; date.getYear() + y <= 9999; y++) {
            LocalDate like = date.plusYears(y);
            if (like.getDayOfMonth() == date.getDayOfMonth() && --left == 0) {
                tell(like.getYear());
                return dayOf(like);
            }
        }
        return -2;
    }

    int whole(int a, int b) {
        if (!slots(a, b)) {
            return -1;
        }
        LocalDate from = dateOf(Math.min(dayAt(a), dayAt(b)));
        LocalDate to = dateOf(Math.max(dayAt(a), dayAt(b)));
        long all = ChronoUnit.DAYS.between(from, to);
        int count = 0;
        for (YearMonth m = YearMonth.from(from); !m.atDay(1).isAfter(to); m = m.plusMonths(1)) {
            if (!m.atDay(1).isBefore(from) && m.atEndOfMonth().isBefore(to)) {
                if (count == 0) {
                    row = new long[] {ChronoUnit.DAYS.between(from, m.atDay(1)), 0};
                }
                row[1] = ChronoUnit.DAYS.between(m.atEndOfMonth(), to) - 1;
                count++;
            }
        }
        if (count == 0) {
            tell(all, 0);
        }
        return count;
    }

    int floors(int i, int what, int to) {
        if (!slots(i, to) || !in(what, 0, 5)) {
            return -1;
        }
        long was = moments[i];
        LocalDate date = dateOf(dayAt(i));
        long[] floor = {was / 60 * 60, was / 3600 * 3600, was / 86400 * 86400,
            dayOf(date.with(java.time.DayOfWeek.MONDAY)) * 86400L,
            dayOf(date.withDayOfMonth(1)) * 86400L, dayOf(date.withDayOfYear(1)) * 86400L};
        moments[to] = floor[what];
        tell(floor[what] % 86400, was - floor[what]);
        return (int) (floor[what] / 86400);
    }

    int part(int a, int b, int k, int n, int to) {
        if (!slots(a, b, to) || !in(n, 1, 1000) || !in(k, 0, n)) {
            return -1;
        }
        java.math.BigInteger way = java.math.BigInteger.valueOf(moments[b] - moments[a])
                .multiply(java.math.BigInteger.valueOf(k)).divide(java.math.BigInteger.valueOf(n));
        moments[to] = moments[a] + way.longValueExact();
        tell(moments[to] % 86400);
        return (int) (moments[to] / 86400);
    }

    int mean(int slots) {
        if (!in(slots, 1, 255)) {
            return -1;
        }
        Integer[] of = java.util.stream.IntStream.range(0, 8).boxed()
                .filter(i -> (slots >> i & 1) == 1).toArray(Integer[]::new);
        long mean = Arrays.stream(of).mapToLong(i -> moments[i]).sum() / of.length;
        long low = Arrays.stream(of).mapToLong(i -> moments[i]).min().getAsLong();
        long high = Arrays.stream(of).mapToLong(i -> moments[i]).max().getAsLong();
        tell(mean % 86400, Arrays.stream(of).filter(i -> moments[i] == low).findFirst().get(),
                Arrays.stream(of).filter(i -> moments[i] == high).findFirst().get());
        return (int) (mean / 86400);
    }

    private int sorted(Comparator<Integer> by) {
        row = java.util.stream.IntStream.range(0, 8).boxed().sorted(by).mapToLong(i -> i).toArray();
        return (int) row[0];
    }

    int sorts() {
        return sorted(Comparator.comparingLong(i -> moments[i]));
    }

    // ---- shares

    private double length(int s) {
        return 2629746.0 * spans[s][0] + 86400.0 * spans[s][1] + spans[s][2];
    }

    long share(int s, int t) {
        return slots(s, t) ? Double.doubleToLongBits(length(s) / length(t)) : -1;
    }

    int ranks() {
        return sorted(Comparator.comparingDouble(this::length));
    }

    long rest(int s, int t) {
        return slots(s, t) ? Double.doubleToLongBits(length(s) % length(t)) : -1;
    }

    int years(int s) {
        return slot(s) ? Float.floatToIntBits((float) (length(s) / 31556952.0)) : -1;
    }

    // ---- written, kept, counted

    private static int signOf(String t, int k) {
        return k == -1 ? t.length() : in(k, 0, t.length() - 1) ? t.charAt(k) : -1;
    }

    int written(int i, int k) {
        if (!slot(i)) {
            return -1;
        }
        java.time.LocalTime time = java.time.LocalTime.ofSecondOfDay(secondAt(i));
        String t = dateOf(dayAt(i)).toString();
        return signOf(secondAt(i) == 0 ? t : t + String.format("T%02d:%02d:%02d",
                time.getHour(), time.getMinute(), time.getSecond()), k);
    }

    int phrase(int s, int k) {
        if (!slot(s) || k < -1) {
            return -1;
        }
        int[] all = spans[s];
        int[] numbers = {all[0] / 12, all[0] % 12, all[1] / 7, all[1] % 7, all[2] / 3600,
            all[2] % 3600 / 60, all[2] % 60};
        String t = "";
        for (int u = 0; u < 7; u++) {
            if (Math.abs(numbers[u]) > 99999) {
                return -2;
            }
            t += numbers[u] == 0 ? "" : numbers[u] + "ymwdhis".substring(u, u + 1);
        }
        return signOf(t.isEmpty() ? "0s" : t, k);
    }

    boolean keeps() {
        keptMoments = moments.clone();
        keptSpans = Arrays.stream(spans).map(int[]::clone).toArray(int[][]::new);
        return true;
    }

    boolean back() {
        if (keptMoments == null) {
            return false;
        }
        moments = keptMoments.clone();
        spans = Arrays.stream(keptSpans).map(int[]::clone).toArray(int[][]::new);
        return true;
    }

    int count(int what) {
        int used = 0;
        int something = 0;
        for (int i = 0; i < 8; i++) {
            used |= moments[i] != 0 ? 1 << i : 0;
            something |= Arrays.equals(spans[i], new int[3]) ? 0 : 1 << i;
        }
        int[] all = {used, something, row.length, text.length()};
        return in(what, 0, 3) ? all[what] : -1;
    }
}
