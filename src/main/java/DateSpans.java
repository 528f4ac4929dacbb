import java.util.NoSuchElementException;

/** Moments, the spans between them, and where spans lead that are added by named laws. */
public final class DateSpans {
    public static final int NONE = -1;

    private static final int FAILS = -2;
    private static final int BEYOND = -9;
    private static final int WRONG_SIGN = -21;
    private static final int NO_SUCH_NUMBER = -2000000000;
    private static final long TIMES_BEYOND = -1000009L;
    private static final long TIMES_FAIL = -1000002L;

    private static final int CLAMP = 0;
    private static final int OVER = 1;
    private static final int END = 2;
    private static final int STRICT = 3;

    private static final int YEARS_UNIT = 1;
    private static final int MONTHS_UNIT = 2;
    private static final int DAYS_UNIT = 4;

    private static final int SLOTS = 8;
    private static final int MOST_SIGNS = 100;
    private static final int BOUND = 1000000000;
    private static final int LAST_YEAR = 9999;
    private static final int LAST_DAY = 3652058;
    private static final int DAY_SECONDS = 86400;
    private static final int FIRST_START = 730119;
    private static final int LAST_START = 876215;
    private static final int STARTS = 146097;
    private static final long NOT_A_NUMBER = 0x7ff8000000000000L;
    private static final long INFINITE = 0x7ff0000000000000L;
    private static final long SIGN_BIT = 0x8000000000000000L;
    private static final int FLOAT_SIGN_BIT = 0x80000000;

    private final Slots now = new Slots();
    private final Slots kept = new Slots();
    private boolean keepsSome = false;
    private final Row told = new Row();
    private final Text text = new Text();
    private final Text script = new Text();
    private final MomentReader momentReader = new MomentReader();
    private final SpanReader spanReader = new SpanReader();
    private final Adder adder = new Adder();
    private final Adder other = new Adder();
    private final Trial trial = new Trial();
    private final Ways ways = new Ways();

    public DateSpans() {
    }

    // ---- moments, spans

    public int sign(int v) {
        if (text.length() + 4 > MOST_SIGNS) {
            return NONE;
        }
        text.put(v >>> 24 & 255);
        text.put(v >>> 16 & 255);
        text.put(v >>> 8 & 255);
        text.put(v & 255);
        return text.length();
    }

    public boolean end(int n) {
        if (n < 0 || n > text.length()) {
            return false;
        }
        text.cut(n);
        return true;
    }

    public int moment(int i) {
        int wrong = momentReader.wrongAt(text);
        text.cut(0);
        if (wrong != NONE) {
            return WRONG_SIGN - wrong;
        }
        if (!isSlot(i)) {
            return NONE;
        }
        now.putMoment(i, momentReader.day, momentReader.second);
        return momentReader.day;
    }

    public int sets(int i, int day, int second) {
        if (!isSlot(i) || !isDay(day) || second < 0 || second >= DAY_SECONDS) {
            return NONE;
        }
        int was = now.dayAt(i);
        now.putMoment(i, day, second);
        return was;
    }

    public int span(int s) {
        int wrong = spanReader.wrongAt(text);
        text.cut(0);
        if (wrong != NONE) {
            return WRONG_SIGN - wrong;
        }
        if (!isSlot(s)) {
            return NONE;
        }
        return comesToSpan(s, spanReader.months, spanReader.days, spanReader.seconds);
    }

    public boolean parts(int s, int months, int days, int seconds) {
        if (!isSlot(s) || !areBounded(months, days, seconds)) {
            return false;
        }
        now.putSpan(s, months, days, seconds);
        return true;
    }

    public int momentIs(int i, int what) {
        if (!isSlot(i)) {
            return NONE;
        }
        int day = now.dayAt(i);
        int date = Calendar.dateOf(day);
        int year = date / 10000;
        switch (what) {
            case 0:
                return day;
            case 1:
                return now.secondAt(i);
            case 2:
                return date;
            case 3:
                return Calendar.weekdayOf(day);
            case 4:
                return day - Calendar.dayOf(year, 1, 1) + 1;
            case 5:
                return Calendar.monthLength(year, date / 100 % 100);
            case 6:
                return Calendar.isLeap(year) ? 1 : 0;
            default:
                return NONE;
        }
    }

    public int spanIs(int s, int what) {
        if (!isSlot(s)) {
            return NO_SUCH_NUMBER;
        }
        switch (what) {
            case 0:
                return now.monthsAt(s);
            case 1:
                return now.daysAt(s);
            case 2:
                return now.secondsAt(s);
            default:
                return NO_SUCH_NUMBER;
        }
    }

    public int date(int day) {
        return isDay(day) ? Calendar.dateOf(day) : NONE;
    }

    public int day(int date) {
        if (date < 0) {
            return FAILS;
        }
        int year = date / 10000;
        int month = date / 100 % 100;
        int dayOfMonth = date % 100;
        if (!Calendar.isYear(year) || !Calendar.isMonth(month)
                || dayOfMonth < 1 || dayOfMonth > Calendar.monthLength(year, month)) {
            return FAILS;
        }
        return Calendar.dayOf(year, month, dayOfMonth);
    }

    public int week(int day) {
        if (!isDay(day)) {
            return NONE;
        }
        // A week is of the year that its Thursday is of.
        int thursday = day - Calendar.weekdayOf(day) + 3;
        int year = Calendar.dateOf(thursday) / 10000;
        told.tell(year);
        return (thursday - Calendar.dayOf(year, 1, 1)) / 7 + 1;
    }

    // ---- adding

    public int add(int i, int s, int law, int order, int to) {
        if (!isSlot(i) || !isSlot(s) || !isLaw(law) || !isOrder(order) || !isSlot(to)) {
            return NONE;
        }
        adder.takes(now, s, 1, law);
        if (!adder.leads(now.dayAt(i), now.secondAt(i), order)) {
            return FAILS;
        }
        now.putMoment(to, adder.day, adder.second);
        told.tell(adder.second, adder.lacking);
        return adder.day;
    }

    public int steps(int i, int s, int law, int order, int n, int to) {
        if (!isSlot(i) || !isSlot(s) || !isLaw(law) || !isOrder(order) || !isSlot(to)
                || n < 0 || n > 10000) {
            return NONE;
        }
        adder.takes(now, s, 1, law);
        adder.stands(now.dayAt(i), now.secondAt(i));
        int lacked = 0;
        for (int k = 0; k < n; k++) {
            if (!adder.leads(adder.day, adder.second, order)) {
                return FAILS;
            }
            if (adder.lacking > 0) {
                lacked++;
            }
        }
        now.putMoment(to, adder.day, adder.second);
        told.tell(adder.second, lacked);
        return adder.day;
    }

    public int sum(int a, int b, int to) {
        if (!isSlot(a) || !isSlot(b) || !isSlot(to)) {
            return NONE;
        }
        return comesToSpan(to, (long) now.monthsAt(a) + now.monthsAt(b),
                (long) now.daysAt(a) + now.daysAt(b),
                (long) now.secondsAt(a) + now.secondsAt(b));
    }

    public int turn(int a, int to) {
        return mult(a, -1, to);
    }

    public int mult(int a, int k, int to) {
        if (!isSlot(a) || !isSlot(to)) {
            return NONE;
        }
        return comesToSpan(to, (long) now.monthsAt(a) * k, (long) now.daysAt(a) * k,
                (long) now.secondsAt(a) * k);
    }

    public int even(int a, int to) {
        if (!isSlot(a) || !isSlot(to)) {
            return NONE;
        }
        int seconds = now.secondsAt(a);
        return comesToSpan(to, now.monthsAt(a), (long) now.daysAt(a) + seconds / DAY_SECONDS,
                seconds % DAY_SECONDS);
    }

    /** A span that came out goes to a slot and to the row, if its numbers are within bounds. */
    private int comesToSpan(int to, long months, long days, long seconds) {
        if (!areBounded(months, days, seconds)) {
            return BEYOND;
        }
        now.putSpan(to, (int) months, (int) days, (int) seconds);
        told.tell(months, days, seconds);
        return (int) months;
    }

    // ---- differences

    public int between(int a, int b, int law, int units, int to) {
        if (!isSlot(a) || !isSlot(b) || !isLaw(law) || units < 1 || units > 7 || !isSlot(to)) {
            return NONE;
        }
        int months = 0;
        if ((units & (YEARS_UNIT | MONTHS_UNIT)) != 0) {
            boolean wholeYears = (units & MONTHS_UNIT) == 0;
            months = mostMonths(now.dayAt(a), now.secondAt(a), now.instantAt(b), law, wholeYears);
        }
        adder.takesNumbers(months, 0, 0, law);
        adder.leads(now.dayAt(a), now.secondAt(a), 0);
        long left = now.instantAt(b) - adder.instant();
        long days = (units & DAYS_UNIT) != 0 ? left / DAY_SECONDS : 0;
        long seconds = left - days * DAY_SECONDS;
        int answer = comesToSpan(to, months, days, seconds);
        if (areBounded(months, days, seconds)) {
            told.push(returns(a, b, to, law) ? 1 : 0);
        }
        return answer;
    }

    /** Whether a span, turned and added to moment b, leads to moment a. */
    private boolean returns(int a, int b, int s, int law) {
        adder.takes(now, s, -1, law);
        return adder.leads(now.dayAt(b), now.secondAt(b), 0)
                && adder.instant() == now.instantAt(a);
    }

    /** The most months, or whole years, that lead from a moment towards a goal and not beyond it. */
    private int mostMonths(int day, int second, long goal, int law, boolean wholeYears) {
        int way = goal < instantOf(day, second) ? -1 : 1;
        int goalMonth = Calendar.monthOf((int) (goal / DAY_SECONDS));
        int apart = Math.abs(goalMonth - Calendar.monthOf(day));
        // By OVER a month back can lead into the month behind it: so one more than they are apart.
        for (int n = apart + 1; n > 0; n--) {
            if (wholeYears && n % 12 != 0) {
                continue;
            }
            adder.takesNumbers(way * n, 0, 0, law);
            if (adder.leads(day, second, 0) && way * (goal - adder.instant()) >= 0) {
                return way * n;
            }
        }
        return 0;
    }

    public int least(int a, int b, int law) {
        if (!isSlot(a) || !isSlot(b) || !isLaw(law)) {
            return NONE;
        }
        int from = now.dayAt(a);
        int to = now.dayAt(b);
        int way = to < from ? -1 : 1;
        int most = Math.abs(mostMonths(from, 0, instantOf(to, 0), law, false)) + 12;
        int size = phraseSize(0, to - from);
        int months = 0;
        int days = to - from;
        for (int n = 1; n <= most; n++) {
            adder.takesNumbers(way * n, 0, 0, law);
            if (adder.leads(from, 0, 0) && phraseSize(n, to - adder.day) < size) {
                size = phraseSize(n, to - adder.day);
                months = way * n;
                days = to - adder.day;
            }
        }
        told.tell(months, days);
        return size;
    }

    private static int phraseSize(int months, int days) {
        int monthsSize = Math.abs(months);
        int daysSize = Math.abs(days);
        return monthsSize / 12 + monthsSize % 12 + daysSize / 7 + daysSize % 7;
    }

    public int age(int a, int b) {
        if (!isSlot(a) || !isSlot(b)) {
            return NONE;
        }
        int from = now.dayAt(a);
        int to = now.dayAt(b);
        int years = to < from ? 0 : mostMonths(from, 0, instantOf(to, 0), CLAMP, true) / 12;
        adder.takesNumbers(12 * years, 0, 0, CLAMP);
        adder.leads(from, 0, 0);
        int last = adder.day;
        adder.takesNumbers(12 * years + 12, 0, 0, CLAMP);
        boolean comes = adder.leads(from, 0, 0);
        told.tell(to - last, comes ? adder.day - to : FAILS);
        return years;
    }

    // ---- spans compared

    public int compare(int s, int t, int law) {
        if (!isSlot(s) || !isSlot(t) || !isLaw(law)) {
            return NONE;
        }
        adder.takes(now, s, 1, law);
        other.takes(now, t, 1, law);
        told.tell(0, 0, 0);
        told.push(NONE);
        told.push(NONE);
        told.push(NONE);
        int bits = 0;
        for (int day = FIRST_START; day <= LAST_START; day++) {
            if (adder.leads(day, 0, 0) && other.leads(day, 0, 0)) {
                int kind = 1 + Long.compare(adder.instant(), other.instant());
                if (told.at(kind) == 0) {
                    told.put(kind + 3, day);
                    bits |= 1 << kind;
                }
                told.put(kind, told.at(kind) + 1);
            }
        }
        return bits;
    }

    public long lasts(int s, int law) {
        if (!isSlot(s) || !isLaw(law)) {
            return NONE;
        }
        adder.takes(now, s, 1, law);
        ways.clear();
        for (int day = FIRST_START; day <= LAST_START; day++) {
            if (adder.leads(day, 0, 0)) {
                ways.meet(day, adder.instant() - instantOf(day, 0));
            }
        }
        if (ways.many == 0) {
            return FAILS;
        }
        told.tell(ways.fewest, ways.most, ways.fewestDay);
        told.push(ways.mostDay);
        told.push(ways.many);
        return ways.fewest;
    }

    public int fails(int what, int s, int t, int law, int day) {
        if (!isTrial(what, s, t, law) || !isDay(day)) {
            return NONE;
        }
        if (!trial.takes(now, what, s, t, law)) {
            return BEYOND;
        }
        int last = Math.min(day + STARTS - 1, LAST_DAY);
        for (int d = day; d <= last; d++) {
            if (trial.meets(d) && trial.left != trial.right) {
                told.tell(trial.left, trial.right);
                return d;
            }
        }
        return FAILS;
    }

    public int often(int what, int s, int t, int law) {
        if (!isTrial(what, s, t, law)) {
            return NONE;
        }
        if (!trial.takes(now, what, s, t, law)) {
            return BEYOND;
        }
        int times = 0;
        long most = 0;
        int mostDay = NONE;
        for (int day = FIRST_START; day <= LAST_START; day++) {
            if (trial.meets(day) && trial.left != trial.right) {
                times++;
                long apart = Math.abs(trial.left - trial.right);
                if (apart > most) {
                    most = apart;
                    mostDay = day;
                }
            }
        }
        told.tell(most, mostDay);
        return times;
    }

    private static boolean isTrial(int what, int s, int t, int law) {
        return what >= 0 && what <= 3 && isSlot(s) && isSlot(t) && isLaw(law);
    }

    // ---- steps and turns

    public long drift(int i, int s, int law, int n) {
        if (!isSlot(i) || !isSlot(s) || !isLaw(law) || n < 0 || n > 1000) {
            return NONE;
        }
        if (!other.takes(now, s, n, law)) {
            return TIMES_BEYOND;
        }
        if (!other.leads(now.dayAt(i), now.secondAt(i), 0)) {
            return TIMES_FAIL;
        }
        adder.takes(now, s, 1, law);
        adder.stands(now.dayAt(i), now.secondAt(i));
        for (int k = 0; k < n; k++) {
            if (!adder.leads(adder.day, adder.second, 0)) {
                return TIMES_FAIL;
            }
        }
        told.tell(adder.instant(), other.instant());
        return adder.instant() - other.instant();
    }

    public long runs(int i, int s, int law, int n) {
        if (!isSlot(i) || !isSlot(s) || !isLaw(law) || n < 1 || n > 1000) {
            return NONE;
        }
        if (!adder.takes(now, s, n, law)) {
            return TIMES_BEYOND;
        }
        long last = now.instantAt(i);
        ways.clear();
        for (int k = 1; k <= n; k++) {
            if (!leadsAtOnce(i, s, law, k)) {
                return TIMES_FAIL;
            }
            ways.weigh(k - 1, adder.instant() - last);
            last = adder.instant();
        }
        told.tell(ways.most, ways.fewestDay, ways.mostDay);
        return ways.fewest;
    }

    public int next(int i, int s, int law, int j) {
        if (!isSlot(i) || !isSlot(s) || !isLaw(law) || !isSlot(j)) {
            return NONE;
        }
        long goal = now.instantAt(j);
        for (int k = 0; k <= 10000; k++) {
            if (leadsAtOnce(i, s, law, k) && adder.instant() >= goal) {
                told.tell(adder.day, adder.second);
                return k;
            }
        }
        return FAILS;
    }

    public int falls(int i, int s, int law, int n, int weekday) {
        if (!isSlot(i) || !isSlot(s) || !isLaw(law) || n < 0 || n > 1000 || !isWeekday(weekday)) {
            return NONE;
        }
        int many = 0;
        int first = NONE;
        for (int k = 0; k <= n; k++) {
            if (leadsAtOnce(i, s, law, k) && Calendar.weekdayOf(adder.day) == weekday) {
                if (many == 0) {
                    first = k;
                }
                many++;
            }
        }
        told.tell(first);
        return many;
    }

    /** Whether k times a span, at once, is within bounds and leads somewhere from a moment. */
    private boolean leadsAtOnce(int i, int s, int law, int k) {
        return adder.takes(now, s, k, law) && adder.leads(now.dayAt(i), now.secondAt(i), 0);
    }

    public int nth(int year, int month, int weekday, int n) {
        if (!Calendar.isYear(year) || !Calendar.isMonth(month) || !isWeekday(weekday)
                || n == 0 || n < -5 || n > 5) {
            return NONE;
        }
        int first = Calendar.dayOf(year, month, 1);
        int last = first + Calendar.monthLength(year, month) - 1;
        int day = n > 0
                ? first + (weekday - Calendar.weekdayOf(first) + 7) % 7 + 7 * (n - 1)
                : last - (Calendar.weekdayOf(last) - weekday + 7) % 7 + 7 * (n + 1);
        return day < first || day > last ? FAILS : day;
    }

    public int workdays(int a, int b) {
        if (!isSlot(a) || !isSlot(b)) {
            return NONE;
        }
        int from = Math.min(now.dayAt(a), now.dayAt(b));
        int to = Math.max(now.dayAt(a), now.dayAt(b));
        int weeks = (to - from) / 7;
        int others = (to - from) % 7;
        int work = 0;
        told.begin();
        for (int weekday = 0; weekday < 7; weekday++) {
            int ahead = (weekday - Calendar.weekdayOf(from) + 7) % 7;
            int many = ahead < others ? weeks + 1 : weeks;
            told.push(many);
            if (weekday < 5) {
                work += many;
            }
        }
        return now.dayAt(b) < now.dayAt(a) ? -work : work;
    }

    public int shifts(int i, int n, int to) {
        if (!isSlot(i) || n < -10000 || n > 10000 || !isSlot(to)) {
            return NONE;
        }
        int way = n < 0 ? -1 : 1;
        int left = Math.abs(n);
        int day = now.dayAt(i);
        int passed = 0;
        // Of any seven days five are workdays, so twice as many days as are asked for are enough.
        for (int k = 0; k < 30000 && left > 0; k++) {
            day += way;
            if (!isDay(day)) {
                return FAILS;
            }
            if (Calendar.weekdayOf(day) < 5) {
                left--;
            } else {
                passed++;
            }
        }
        now.putMoment(to, day, now.secondAt(i));
        told.tell(passed);
        return day;
    }

    public long overlaps(int a, int b, int c, int d) {
        if (!isSlot(a) || !isSlot(b) || !isSlot(c) || !isSlot(d)) {
            return NONE;
        }
        long begins = Math.max(Math.min(now.instantAt(a), now.instantAt(b)),
                Math.min(now.instantAt(c), now.instantAt(d)));
        long ends = Math.min(Math.max(now.instantAt(a), now.instantAt(b)),
                Math.max(now.instantAt(c), now.instantAt(d)));
        told.tell(begins, Math.max(begins - ends, 0L));
        return Math.max(ends - begins, 0L);
    }

    public int leaps(int a, int b) {
        if (!isSlot(a) || !isSlot(b)) {
            return NONE;
        }
        int from = Math.min(now.dayAt(a), now.dayAt(b));
        int to = Math.max(now.dayAt(a), now.dayAt(b));
        int lastYear = Calendar.dateOf(to) / 10000;
        int many = 0;
        int first = NONE;
        int last = NONE;
        for (int year = Calendar.dateOf(from) / 10000; year <= lastYear; year++) {
            int day = Calendar.dayOf(year, 2, 29);
            if (Calendar.isLeap(year) && day >= from && day <= to) {
                if (many == 0) {
                    first = day;
                }
                last = day;
                many++;
            }
        }
        told.tell(first, last);
        return many;
    }

    public int again(int i, int n) {
        if (!isSlot(i) || n < 1 || n > 100) {
            return NONE;
        }
        int date = Calendar.dateOf(now.dayAt(i));
        int month = date / 100 % 100;
        int dayOfMonth = date % 100;
        int left = n;
        for (int year = date / 10000 + 1; year <= LAST_YEAR; year++) {
            if (dayOfMonth <= Calendar.monthLength(year, month)) {
                left--;
            }
            if (left == 0) {
                told.tell(year);
                return Calendar.dayOf(year, month, dayOfMonth);
            }
        }
        return FAILS;
    }

    public int whole(int a, int b) {
        if (!isSlot(a) || !isSlot(b)) {
            return NONE;
        }
        int from = Math.min(now.dayAt(a), now.dayAt(b));
        int to = Math.max(now.dayAt(a), now.dayAt(b));
        int first = Calendar.monthOf(from);
        if (Calendar.firstOf(first) < from) {
            first++;
        }
        int behind = Calendar.monthOf(to);
        if (behind <= first) {
            told.tell(to - from, 0);
            return 0;
        }
        told.tell(Calendar.firstOf(first) - from, to - Calendar.firstOf(behind));
        return behind - first;
    }

    public int floors(int i, int what, int to) {
        if (!isSlot(i) || what < 0 || what > 5 || !isSlot(to)) {
            return NONE;
        }
        long instant = now.instantAt(i);
        long floor = floorOf(now.dayAt(i), now.secondAt(i), what);
        now.putInstant(to, floor);
        told.tell(now.secondAt(to), instant - floor);
        return now.dayAt(to);
    }

    private static long floorOf(int day, int second, int what) {
        int year = Calendar.dateOf(day) / 10000;
        switch (what) {
            case 0:
                return instantOf(day, second - second % 60);
            case 1:
                return instantOf(day, second - second % 3600);
            case 2:
                return instantOf(day, 0);
            case 3:
                return instantOf(day - Calendar.weekdayOf(day), 0);
            case 4:
                return instantOf(Calendar.firstOf(Calendar.monthOf(day)), 0);
            default:
                return instantOf(Calendar.dayOf(year, 1, 1), 0);
        }
    }

    public int part(int a, int b, int k, int n, int to) {
        if (!isSlot(a) || !isSlot(b) || n < 1 || n > 1000 || k < 0 || k > n || !isSlot(to)) {
            return NONE;
        }
        long way = (now.instantAt(b) - now.instantAt(a)) * k / n;
        now.putInstant(to, now.instantAt(a) + way);
        told.tell(now.secondAt(to));
        return now.dayAt(to);
    }

    public int mean(int slots) {
        if (slots < 1 || slots > 255) {
            return NONE;
        }
        long together = 0;
        int many = 0;
        int earliest = NONE;
        int latest = NONE;
        for (int i = 0; i < SLOTS; i++) {
            if ((slots & 1 << i) != 0) {
                together += now.instantAt(i);
                many++;
                if (earliest == NONE || now.instantAt(i) < now.instantAt(earliest)) {
                    earliest = i;
                }
                if (latest == NONE || now.instantAt(i) > now.instantAt(latest)) {
                    latest = i;
                }
            }
        }
        long mean = many > 0 ? together / many : 0;
        told.tell(mean % DAY_SECONDS, earliest, latest);
        return (int) (mean / DAY_SECONDS);
    }

    public int sorts() {
        return ranked(false);
    }

    /** All slots by their instants or by their lengths: the first one, and all in the row. */
    private int ranked(boolean byLength) {
        told.begin();
        for (int i = 0; i < SLOTS; i++) {
            told.push(i);
        }
        for (int i = 0; i < SLOTS; i++) {
            int rank = 0;
            for (int j = 0; j < SLOTS; j++) {
                long ahead = byLength ? lengthOf(j) - lengthOf(i)
                        : now.instantAt(j) - now.instantAt(i);
                if (ahead < 0 || ahead == 0 && j < i) {
                    rank++;
                }
            }
            told.put(rank, i);
        }
        return (int) told.at(0);
    }

    // ---- shares

    public long share(int s, int t) {
        if (!isSlot(s) || !isSlot(t)) {
            return NONE;
        }
        long length = lengthOf(s);
        long by = lengthOf(t);
        if (by == 0) {
            // No length is -0.0, so what is divided alone gives the sign.
            return length == 0 ? NOT_A_NUMBER : signBit(length) | INFINITE;
        }
        if (length == 0) {
            return signBit(by);
        }
        return bitsOf((double) length / (double) by);
    }

    public int ranks() {
        return ranked(true);
    }

    public long rest(int s, int t) {
        if (!isSlot(s) || !isSlot(t)) {
            return NONE;
        }
        long length = lengthOf(s);
        long by = lengthOf(t);
        if (by == 0) {
            return NOT_A_NUMBER;
        }
        long left = length % by;
        // As % of doubles tells it, a rest of 0 has the sign of what was divided.
        return left == 0 ? signBit(length) : bitsOf((double) left);
    }

    public int years(int s) {
        if (!isSlot(s)) {
            return NONE;
        }
        float years = (float) ((double) lengthOf(s) / 31556952.0);
        if (years == 0.0f) {
            return 0;
        }
        double size = years < 0.0f ? -years : years;
        int power = powerOf(size);
        int bits = power + 127 << 23 | (int) fractionOf(size, power, 23);
        return years < 0.0f ? bits | FLOAT_SIGN_BIT : bits;
    }

    /** The length as a whole number: below 2 to the 53rd, so as a double it is the same. */
    private long lengthOf(int s) {
        return 2629746L * now.monthsAt(s) + 86400L * now.daysAt(s) + now.secondsAt(s);
    }

    private static long signBit(long number) {
        return number < 0 ? SIGN_BIT : 0L;
    }

    /** The bits of a double that is neither 0 nor too small or too great for its usual form. */
    private static long bitsOf(double number) {
        double size = number < 0.0 ? -number : number;
        int power = powerOf(size);
        long bits = (long) (power + 1023) << 52 | fractionOf(size, power, 52);
        return number < 0.0 ? bits | SIGN_BIT : bits;
    }

    /** The power of two that is not more than a size above 0, while the next one is. */
    private static int powerOf(double size) {
        double left = size;
        int power = 0;
        for (int k = 0; k < 1100 && left >= 2.0; k++) {
            left = left / 2.0;
            power++;
        }
        for (int k = 0; k < 1100 && left < 1.0; k++) {
            left = left * 2.0;
            power--;
        }
        return power;
    }

    /** The binary digits of a size behind the one of its power. */
    private static long fractionOf(double size, int power, int digits) {
        double scaled = size;
        for (int k = power; k < digits; k++) {
            scaled = scaled * 2.0;
        }
        for (int k = power; k > digits; k--) {
            scaled = scaled / 2.0;
        }
        return (long) scaled - (1L << digits);
    }

    // ---- written, kept, counted

    public int written(int i, int k) {
        if (!isSlot(i)) {
            return NONE;
        }
        writeMoment(now.dayAt(i), now.secondAt(i));
        return k == NONE ? script.length() : script.at(k);
    }

    private void writeMoment(int day, int second) {
        int date = Calendar.dateOf(day);
        script.cut(0);
        script.putTwo(date / 1000000);
        script.putTwo(date / 10000 % 100);
        script.put('-');
        script.putTwo(date / 100 % 100);
        script.put('-');
        script.putTwo(date % 100);
        if (second != 0) {
            script.put('T');
            script.putTwo(second / 3600);
            script.put(':');
            script.putTwo(second / 60 % 60);
            script.put(':');
            script.putTwo(second % 60);
        }
    }

    public int phrase(int s, int k) {
        if (!isSlot(s) || k < NONE) {
            return NONE;
        }
        int months = now.monthsAt(s);
        int days = now.daysAt(s);
        int seconds = now.secondsAt(s);
        if (!isShort(months / 12) || !isShort(days / 7) || !isShort(seconds / 3600)) {
            return FAILS;
        }
        script.cut(0);
        script.putPart(months / 12, 'y');
        script.putPart(months % 12, 'm');
        script.putPart(days / 7, 'w');
        script.putPart(days % 7, 'd');
        script.putPart(seconds / 3600, 'h');
        script.putPart(seconds / 60 % 60, 'i');
        script.putPart(seconds % 60, 's');
        if (script.length() == 0) {
            script.put('0');
            script.put('s');
        }
        return k == NONE ? script.length() : script.at(k);
    }

    /** Whether a number has no more than five digits. */
    private static boolean isShort(int number) {
        return number >= -99999 && number <= 99999;
    }

    public boolean keeps() {
        kept.becomes(now);
        keepsSome = true;
        return true;
    }

    public boolean back() {
        if (!keepsSome) {
            return false;
        }
        now.becomes(kept);
        return true;
    }

    public int count(int what) {
        switch (what) {
            case 0:
                return usedSlots(false);
            case 1:
                return usedSlots(true);
            case 2:
                return told.length();
            case 3:
                return text.length();
            default:
                return NONE;
        }
    }

    private int usedSlots(boolean ofSpans) {
        int bits = 0;
        for (int i = 0; i < SLOTS; i++) {
            boolean used = ofSpans
                    ? now.monthsAt(i) != 0 || now.daysAt(i) != 0 || now.secondsAt(i) != 0
                    : now.instantAt(i) != 0;
            if (used) {
                bits |= 1 << i;
            }
        }
        return bits;
    }

    public long row(int i) throws NoSuchElementException {
        if (i < 0 || i >= told.length()) {
            throw new NoSuchElementException("no such number of the row");
        }
        return told.at(i);
    }

    // ---- what there is

    private static boolean isSlot(int i) {
        return i >= 0 && i < SLOTS;
    }

    private static boolean isDay(int day) {
        return day >= 0 && day <= LAST_DAY;
    }

    private static boolean isLaw(int law) {
        return law >= CLAMP && law <= STRICT;
    }

    private static boolean isOrder(int order) {
        return order == 0 || order == 1;
    }

    private static boolean isWeekday(int weekday) {
        return weekday >= 0 && weekday <= 6;
    }

    private static boolean areBounded(long months, long days, long seconds) {
        return isBounded(months) && isBounded(days) && isBounded(seconds);
    }

    private static boolean isBounded(long number) {
        return number >= -BOUND && number <= BOUND;
    }

    private static long instantOf(int day, int second) {
        return (long) day * DAY_SECONDS + second;
    }

    /** Days, dates and months; a month is numbered 12 times its year and 0 .. 11. */
    private static final class Calendar {
        static boolean isYear(int year) {
            return year >= 1 && year <= LAST_YEAR;
        }

        static boolean isMonth(int month) {
            return month >= 1 && month <= 12;
        }

        static boolean isLeap(int year) {
            return year % 4 == 0 && (year % 100 != 0 || year % 400 == 0);
        }

        static int monthLength(int year, int month) {
            if (month == 2) {
                return isLeap(year) ? 29 : 28;
            }
            return month == 4 || month == 6 || month == 9 || month == 11 ? 30 : 31;
        }

        static int weekdayOf(int day) {
            return day % 7;
        }

        /** Years are taken from March on: so the day that leap years have more ends them. */
        static int dayOf(int year, int month, int dayOfMonth) {
            int marchYear = month > 2 ? year : year - 1;
            int marchMonth = month > 2 ? month - 3 : month + 9;
            int days = 365 * marchYear + marchYear / 4 - marchYear / 100 + marchYear / 400;
            return days + (153 * marchMonth + 2) / 5 + dayOfMonth - 1 - 306;
        }

        static int dateOf(int day) {
            int since = day + 306;
            int rounds = since / 146097;
            int left = since % 146097;
            int yearOfRound = (left - left / 1460 + left / 36524 - left / 146096) / 365;
            int dayOfYear = left - (365 * yearOfRound + yearOfRound / 4 - yearOfRound / 100);
            int marchMonth = (5 * dayOfYear + 2) / 153;
            int dayOfMonth = dayOfYear - (153 * marchMonth + 2) / 5 + 1;
            int month = marchMonth < 10 ? marchMonth + 3 : marchMonth - 9;
            int year = rounds * 400 + yearOfRound + (month > 2 ? 0 : 1);
            return year * 10000 + month * 100 + dayOfMonth;
        }

        static int monthOf(int day) {
            int date = dateOf(day);
            return date / 10000 * 12 + date / 100 % 100 - 1;
        }

        static int firstOf(int month) {
            return dayOf(month / 12, month % 12 + 1, 1);
        }
    }

    /** The slots of moments and of spans. */
    private static final class Slots {
        private final int[] day = new int[SLOTS];
        private final int[] second = new int[SLOTS];
        private final int[] months = new int[SLOTS];
        private final int[] days = new int[SLOTS];
        private final int[] seconds = new int[SLOTS];

        int dayAt(int i) {
            return isSlot(i) ? day[i] : 0;
        }

        int secondAt(int i) {
            return isSlot(i) ? second[i] : 0;
        }

        long instantAt(int i) {
            return instantOf(dayAt(i), secondAt(i));
        }

        int monthsAt(int s) {
            return isSlot(s) ? months[s] : 0;
        }

        int daysAt(int s) {
            return isSlot(s) ? days[s] : 0;
        }

        int secondsAt(int s) {
            return isSlot(s) ? seconds[s] : 0;
        }

        void putMoment(int i, int newDay, int newSecond) {
            if (isSlot(i)) {
                day[i] = newDay;
                second[i] = newSecond;
            }
        }

        void putInstant(int i, long instant) {
            putMoment(i, (int) (instant / DAY_SECONDS), (int) (instant % DAY_SECONDS));
        }

        void putSpan(int s, int newMonths, int newDays, int newSeconds) {
            if (isSlot(s)) {
                months[s] = newMonths;
                days[s] = newDays;
                seconds[s] = newSeconds;
            }
        }

        void becomes(Slots from) {
            for (int i = 0; i < SLOTS; i++) {
                putMoment(i, from.dayAt(i), from.secondAt(i));
                putSpan(i, from.monthsAt(i), from.daysAt(i), from.secondsAt(i));
            }
        }
    }

    /** The row of numbers that the last telling call left. */
    private static final class Row {
        private final long[] numbers = new long[SLOTS];
        private int length = 0;

        int length() {
            return length;
        }

        void begin() {
            length = 0;
        }

        void push(long number) {
            if (length >= 0 && length < numbers.length) {
                numbers[length] = number;
                length++;
            }
        }

        void put(int i, long number) {
            if (i >= 0 && i < numbers.length) {
                numbers[i] = number;
            }
        }

        long at(int i) {
            return i >= 0 && i < numbers.length ? numbers[i] : 0L;
        }

        void tell(long one) {
            begin();
            push(one);
        }

        void tell(long one, long two) {
            tell(one);
            push(two);
        }

        void tell(long one, long two, long three) {
            tell(one, two);
            push(three);
        }
    }

    /** Signs one behind another. */
    private static final class Text {
        private final int[] signs = new int[MOST_SIGNS];
        private int length = 0;

        int length() {
            return length;
        }

        /** Sign p, or NONE if there is none. */
        int at(int p) {
            return p >= 0 && p < length && p < signs.length ? signs[p] : NONE;
        }

        /** The first n signs stay alone. */
        void cut(int n) {
            if (n >= 0 && n <= length) {
                length = n;
            }
        }

        void put(int sign) {
            if (length >= 0 && length < signs.length) {
                signs[length] = sign;
                length++;
            }
        }

        void putTwo(int number) {
            put('0' + number / 10);
            put('0' + number % 10);
        }

        /** A number of at most five digits and its unit; nothing for 0. */
        void putPart(int number, int unit) {
            if (number == 0) {
                return;
            }
            if (number < 0) {
                put('-');
            }
            int size = Math.abs(number);
            for (int power = 10000; power > 0; power /= 10) {
                if (size >= power) {
                    put('0' + size / power % 10);
                }
            }
            put(unit);
        }
    }

    /** Reads a moment as it is written: 2024-02-29 or 2024-02-29T12:30:05. */
    private static final class MomentReader {
        private int day;
        private int second;
        private int year;
        private int month;
        private int number;

        /** The first sign that can't stand where it does, or NONE; then day and second are read. */
        int wrongAt(Text text) {
            day = 0;
            second = 0;
            for (int p = 0; p < 19; p++) {
                if (p == text.length()) {
                    return p == 10 ? NONE : p;
                }
                if (!fits(p, text.at(p))) {
                    return p;
                }
                keepNumber(p);
            }
            return text.length() > 19 ? 19 : NONE;
        }

        private boolean fits(int p, int sign) {
            switch (p) {
                case 4:
                case 7:
                    return sign == '-';
                case 10:
                    return sign == 'T';
                case 13:
                case 16:
                    return sign == ':';
                default:
                    return sign >= '0' && sign <= '9' && fitsDigit(p, sign - '0');
            }
        }

        private boolean fitsDigit(int p, int digit) {
            boolean first = p == 0 || p == 5 || p == 8 || p == 11 || p == 14 || p == 17;
            number = first ? digit : number * 10 + digit;
            if (p < 4) {
                return p < 3 || number > 0;
            }
            int fewest = p < 10 ? 1 : 0;
            return first ? number * 10 <= mostAt(p) : number >= fewest && number <= mostAt(p);
        }

        private int mostAt(int p) {
            if (p < 8) {
                return 12;
            }
            if (p < 11) {
                return Calendar.monthLength(year, month);
            }
            return p < 14 ? 23 : 59;
        }

        /** At the last digit of a number that number is what the text tells. */
        private void keepNumber(int p) {
            switch (p) {
                case 3:
                    year = number;
                    break;
                case 6:
                    month = number;
                    break;
                case 9:
                    day = Calendar.dayOf(year, month, number);
                    break;
                case 12:
                    second = 3600 * number;
                    break;
                case 15:
                    second += 60 * number;
                    break;
                case 18:
                    second += number;
                    break;
                default:
                    break;
            }
        }
    }

    /** Reads a span as it is written: 1y-2m3d4h. */
    private static final class SpanReader {
        private static final int LAST_UNIT = 6;

        private int months;
        private int days;
        private int seconds;

        /** The first sign that can't stand where it does, or NONE; then the span is read. */
        int wrongAt(Text text) {
            months = 0;
            days = 0;
            seconds = 0;
            int unit = NONE;
            int number = 0;
            int digits = 0;
            boolean below = false;
            for (int p = 0; p < text.length(); p++) {
                int sign = text.at(p);
                if (unit == LAST_UNIT) {
                    return p;
                }
                if (sign >= '0' && sign <= '9') {
                    if (digits == 5 || digits > 0 && number == 0) {
                        return p;
                    }
                    number = number * 10 + sign - '0';
                    digits++;
                } else if (sign == '-') {
                    if (below || digits > 0) {
                        return p;
                    }
                    below = true;
                } else {
                    int its = unitOf(sign);
                    if (digits == 0 || its <= unit) {
                        return p;
                    }
                    take(its, below ? -number : number);
                    unit = its;
                    number = 0;
                    digits = 0;
                    below = false;
                }
            }
            return unit == NONE || below || digits > 0 ? text.length() : NONE;
        }

        private static int unitOf(int sign) {
            switch (sign) {
                case 'y':
                    return 0;
                case 'm':
                    return 1;
                case 'w':
                    return 2;
                case 'd':
                    return 3;
                case 'h':
                    return 4;
                case 'i':
                    return 5;
                case 's':
                    return LAST_UNIT;
                default:
                    return NONE;
            }
        }

        private void take(int unit, int number) {
            switch (unit) {
                case 0:
                    months += 12 * number;
                    break;
                case 1:
                    months += number;
                    break;
                case 2:
                    days += 7 * number;
                    break;
                case 3:
                    days += number;
                    break;
                case 4:
                    seconds += 3600 * number;
                    break;
                case 5:
                    seconds += 60 * number;
                    break;
                default:
                    seconds += number;
                    break;
            }
        }
    }

    /** A span and a law, and where they lead from moments. */
    private static final class Adder {
        private int months;
        private int days;
        private int seconds;
        private int law;
        // The month looked up last and the one that its months lead to: many days in a row share them.
        private int from;
        private int fromLength;
        private int goal;
        private int goalLength;
        private int day;
        private int second;
        private int lacking;

        /** Takes a span of a slot so many times; not, if that is beyond bounds. */
        boolean takes(Slots slots, int s, int times, int newLaw) {
            long newMonths = (long) slots.monthsAt(s) * times;
            long newDays = (long) slots.daysAt(s) * times;
            long newSeconds = (long) slots.secondsAt(s) * times;
            if (!areBounded(newMonths, newDays, newSeconds)) {
                return false;
            }
            takesNumbers((int) newMonths, (int) newDays, (int) newSeconds, newLaw);
            return true;
        }

        void takesNumbers(int newMonths, int newDays, int newSeconds, int newLaw) {
            months = newMonths;
            days = newDays;
            seconds = newSeconds;
            law = newLaw;
            fromLength = 0;
        }

        void stands(int newDay, int newSecond) {
            day = newDay;
            second = newSecond;
            lacking = 0;
        }

        /** Whether the span leads from a moment to one that there is: to day and second. */
        boolean leads(int fromDay, int fromSecond, int order) {
            stands(fromDay, fromSecond);
            if (order == 0) {
                return movesMonths() && movesDays() && movesSeconds();
            }
            return movesSeconds() && movesDays() && movesMonths();
        }

        long instant() {
            return instantOf(day, second);
        }

        private boolean movesMonths() {
            if (months == 0) {
                return true;
            }
            if (day < from || day - from >= fromLength) {
                lookUp();
            }
            if (goalLength == 0) {
                return false;
            }
            int dayOfMonth = day - from + 1;
            boolean wasLast = dayOfMonth == fromLength;
            lacking = Math.max(dayOfMonth - goalLength, 0);
            if (lacking > 0 && law == STRICT) {
                return false;
            }
            if (law == END && wasLast || lacking > 0 && law != OVER) {
                dayOfMonth = goalLength;
            }
            day = goal + dayOfMonth - 1;
            return isDay(day);
        }

        private void lookUp() {
            int month = Calendar.monthOf(day);
            from = Calendar.firstOf(month);
            fromLength = Calendar.firstOf(month + 1) - from;
            int goalMonth = month + months;
            if (goalMonth < 12 || goalMonth > 12 * LAST_YEAR + 11) {
                goalLength = 0;
                return;
            }
            goal = Calendar.firstOf(goalMonth);
            goalLength = Calendar.firstOf(goalMonth + 1) - goal;
        }

        private boolean movesDays() {
            day += days;
            return isDay(day);
        }

        private boolean movesSeconds() {
            if (seconds == 0) {
                return true;
            }
            long instant = instant() + seconds;
            if (instant < 0 || instant > instantOf(LAST_DAY, DAY_SECONDS - 1)) {
                return false;
            }
            day = (int) (instant / DAY_SECONDS);
            second = (int) (instant % DAY_SECONDS);
            return true;
        }
    }

    /** A law of order, and the two instants that it says are the same. */
    private static final class Trial {
        private final Adder one = new Adder();
        private final Adder two = new Adder();
        private final Adder three = new Adder();
        private final Adder four = new Adder();
        private int what;
        private long left;
        private long right;

        /** Takes spans and a law; not, if a span that the law of order needs is beyond bounds. */
        boolean takes(Slots slots, int newWhat, int s, int t, int law) {
            what = newWhat;
            one.takes(slots, s, 1, law);
            switch (what) {
                case 0:
                    two.takes(slots, t, 1, law);
                    three.takes(slots, t, 1, law);
                    four.takes(slots, s, 1, law);
                    return true;
                case 1:
                    two.takes(slots, s, -1, law);
                    return true;
                case 2:
                    two.takes(slots, s, 1, law);
                    return three.takes(slots, s, 2, law);
                default:
                    two.takes(slots, s, 1, law);
                    return true;
            }
        }

        /** Whether all that is added from a day on leads somewhere: to left and right. */
        boolean meets(int day) {
            if (!one.leads(day, 0, 0)) {
                return false;
            }
            if (what == 3) {
                left = one.instant();
                right = two.leads(day, 0, 1) ? two.instant() : NONE;
                return right != NONE;
            }
            if (!two.leads(one.day, one.second, 0)) {
                return false;
            }
            left = two.instant();
            if (what == 1) {
                right = instantOf(day, 0);
                return true;
            }
            if (!three.leads(day, 0, 0)) {
                return false;
            }
            if (what == 2) {
                right = three.instant();
                return true;
            }
            right = four.leads(three.day, three.second, 0) ? four.instant() : NONE;
            return right != NONE;
        }
    }

    /** The fewest and the most seconds of those met, where first, and how many unlike ones. */
    private static final class Ways {
        private final long[] unlike = new long[16];
        private int many;
        private boolean empty;
        private long fewest;
        private long most;
        private int fewestDay;
        private int mostDay;

        void clear() {
            many = 0;
            empty = true;
        }

        /** A day or step has so many seconds. */
        void weigh(int where, long seconds) {
            if (empty || seconds < fewest) {
                fewest = seconds;
                fewestDay = where;
            }
            if (empty || seconds > most) {
                most = seconds;
                mostDay = where;
            }
            empty = false;
        }

        /** The same, and unlike seconds are counted: a span lasts in seven ways at the most. */
        void meet(int where, long seconds) {
            weigh(where, seconds);
            for (int k = 0; k < many && k < unlike.length; k++) {
                if (unlike[k] == seconds) {
                    return;
                }
            }
            if (many >= 0 && many < unlike.length) {
                unlike[many] = seconds;
                many++;
            }
        }
    }
}
