import java.time.DayOfWeek;
import java.time.LocalDate;
import java.time.temporal.TemporalAdjusters;

/** Steps, days of the week and workdays, sentence by sentence: promises 26 to 32, each boundary on both sides. */
public final class StepEdgesTest {
    private static final int LAST = 3652058;
    private static final int MOST = 1000000000;
    private static final int CLAMP = 0;
    private static final int OVER = 1;
    private static final int END = 2;
    private static final int STRICT = 3;

    private StepEdgesTest() {
    }

    public static void main(String[] args) {
        drift();
        driftFails();
        driftBeyond();
        runs();
        runsFirst();
        runsFail();
        next();
        nextAside();
        nextNone();
        falls();
        fallsAside();
        nth();
        nthNone();
        workdays();
        workdaysAll();
        shifts();
        shiftsEnds();
        shiftsAll();
        Due.ends("StepEdgesTest");
    }

    private static DateSpans at(int day, int second, int months, int days, int seconds) {
        DateSpans x = Held.filled();
        x.sets(1, day, second);
        x.parts(2, months, days, seconds);
        return x;
    }

    private static int[] of(int... numbers) {
        return numbers;
    }

    // ---- promise 26

    private static void drifts(DateSpans x, int law, int n, long left, long right) {
        Held held = Held.of(x).row(left, right);
        Due.same("drift by " + law + ", n " + n, x.drift(1, 2, law, n), left - right);
        held.ends("drift by " + law + ", n " + n);
    }

    private static void driftsNot(DateSpans x, int law, int n, long due) {
        Held held = Held.of(x);
        Due.same("drift by " + law + ", n " + n, x.drift(1, 2, law, n), due);
        held.ends("drift by " + law + ", n " + n);
    }

    private static long instant(int year, int month, int day) {
        return Due.day(year, month, day) * 86400L;
    }

    private static void drift() {
        Due.sentence(26, "By how many SECONDS .. one behind another, lead further (below 0: less far) than n times it at once");
        int day = Due.day(2023, 1, 31);
        drifts(at(day, 0, 1, 0, 0), CLAMP, 2, instant(2023, 3, 28), instant(2023, 3, 31));
        drifts(at(day, 0, 1, 0, 0), OVER, 2, instant(2023, 4, 3), instant(2023, 3, 31));
        drifts(at(day, 0, 1, 0, 0), END, 2, instant(2023, 3, 31), instant(2023, 3, 31));
        drifts(at(day, 0, 1, 0, 0), CLAMP, 1, instant(2023, 2, 28), instant(2023, 2, 28));
        drifts(at(Due.day(2023, 3, 31), 0, -1, 0, 0), CLAMP, 2, instant(2023, 1, 28), instant(2023, 1, 31));
        drifts(at(Due.day(2023, 3, 31), 0, -1, 0, 0), OVER, 2, instant(2023, 2, 3), instant(2023, 1, 31));
        Due.sentence(26, "MONTHS to DAYS: ORDER 0");
        drifts(at(Due.day(2023, 1, 30), 7, 1, 1, 0), CLAMP, 2, instant(2023, 4, 2) + 7, instant(2023, 4, 1) + 7);
        drifts(at(Due.day(2023, 1, 28), 7, 1, 1, 0), CLAMP, 1, instant(2023, 3, 1) + 7, instant(2023, 3, 1) + 7);
        Due.sentence(26, "n (0 .. 1000)");
        drifts(at(day, 7, 1, 1, 1), STRICT, 0, instant(2023, 1, 31) + 7, instant(2023, 1, 31) + 7);
        drifts(at(day, 7, 0, 1, 1), CLAMP, 1000, (day + 1000) * 86400L + 1007, (day + 1000) * 86400L + 1007);
        driftsNot(at(day, 7, 0, 1, 1), CLAMP, -1, -1);
        driftsNot(at(day, 7, 0, 1, 1), CLAMP, 1001, -1);
        drifts(at(0, 0, 0, 0, 0), CLAMP, 1000, 0, 0);
    }

    private static void driftFails() {
        Due.sentence(26, "-1000002: either fails");
        int day = Due.day(2023, 1, 31);
        // one behind another fails alone, then at once alone, then both
        driftsNot(at(day, 0, 1, 0, 0), STRICT, 2, -1000002);
        driftsNot(at(Due.day(2023, 8, 31), 0, 1, -5, 0), STRICT, 1, -1000002);
        driftsNot(at(Due.day(2023, 7, 31), 0, 1, -5, 0), STRICT, 2, -1000002);
        drifts(at(Due.day(2023, 7, 31), 0, 1, -5, 0), CLAMP, 2, instant(2023, 9, 21), instant(2023, 9, 20));
        driftsNot(at(LAST, 0, 0, 1, 0), CLAMP, 1, -1000002);
        drifts(at(LAST, 0, 0, 1, 0), CLAMP, 0, LAST * 86400L, LAST * 86400L);
        drifts(at(LAST - 1000, 0, 0, 1, 0), CLAMP, 1000, LAST * 86400L, LAST * 86400L);
        driftsNot(at(LAST - 999, 0, 0, 1, 0), CLAMP, 1000, -1000002);
        driftsNot(at(0, 0, 0, 0, -1), CLAMP, 1, -1000002);
        drifts(at(0, 1, 0, 0, -1), CLAMP, 1, 0, 0);
    }

    private static void driftBeyond() {
        Due.sentence(26, "-1000009: n times it is beyond bounds");
        for (int k = 0; k < 3; k++) {
            for (int sign = -1; sign < 2; sign += 2) {
                int[] within = new int[3];
                within[k] = sign * 1000000;
                int[] beyond = new int[3];
                beyond[k] = sign * 1000001;
                int day = sign < 0 ? LAST : 0;
                long far = (sign < 0 ? LAST * 86400L : 0) + sign * 1000000000L;
                if (k == 2) {
                    drifts(at(day, 0, within[0], within[1], within[2]), CLAMP, 1000, far, far);
                } else {
                    driftsNot(at(day, 0, within[0], within[1], within[2]), CLAMP, 1000, -1000002);
                }
                driftsNot(at(day, 0, beyond[0], beyond[1], beyond[2]), CLAMP, 1000, -1000009);
            }
        }
        Due.sentence(26, "as they are told: -1000009 ahead of -1000002");
        driftsNot(at(LAST, 0, 0, 1000001, 0), CLAMP, 1000, -1000009);
        driftsNot(at(0, 0, MOST, 0, 0), CLAMP, 2, -1000009);
        driftsNot(at(0, 0, MOST, 0, 0), CLAMP, 1, -1000002);
    }

    // ---- promise 27

    private static void gaps(DateSpans x, int law, int n, long fewest, long... row) {
        Held held = Held.of(x).row(row);
        Due.same("runs by " + law + ", n " + n, x.runs(1, 2, law, n), fewest);
        held.ends("runs by " + law + ", n " + n);
    }

    private static void gapsNot(DateSpans x, int law, int n, long due) {
        Held held = Held.of(x);
        Due.same("runs by " + law + ", n " + n, x.runs(1, 2, law, n), due);
        held.ends("runs by " + law + ", n " + n);
    }

    private static void runs() {
        int day = Due.day(2023, 1, 31);
        Due.sentence(27, "k times the SPAN at once .. k 0, 1, .. n (1 .. 1000)");
        gaps(at(day, 5, 1, 0, 0), CLAMP, 1, 28 * 86400, 28 * 86400, 0, 0);
        gaps(at(day, 5, 1, 0, 0), CLAMP, 2, 28 * 86400, 31 * 86400, 0, 1);
        gaps(at(day, 5, 0, 1, 0), CLAMP, 1000, 86400, 86400, 0, 0);
        gapsNot(at(day, 5, 0, 1, 0), CLAMP, 0, -1);
        gapsNot(at(day, 5, 0, 1, 0), CLAMP, 1001, -1);
        gapsNot(at(day, 5, 0, 1, 0), CLAMP, -1, -1);
        Due.sentence(27, "the fewest SECONDS from one to the next (they may be below 0)");
        for (int seconds : of(-1, -2, -9, -21)) {
            gaps(at(day, 5, 0, 0, seconds), CLAMP, 3, seconds, seconds, 0, 0);
        }
        gaps(at(Due.day(2023, 3, 31), 5, -1, 0, 0), CLAMP, 2, -31 * 86400, -28 * 86400, 0, 1);
        gaps(at(day, 5, 0, 0, 0), CLAMP, 7, 0, 0, 0, 0);
        // a month less 31 days: from 30 April on a day back, for two of them the same
        gaps(at(Due.day(2023, 4, 30), 0, 1, -31, 0), CLAMP, 1, -86400, -86400, 0, 0);
        gaps(at(Due.day(2023, 4, 30), 0, 1, -31, 0), CLAMP, 2, -86400, 0, 0, 1);
        Due.sentence(27, "by ORDER 0");
        gaps(at(Due.day(2023, 1, 28), 0, 1, 1, 0), CLAMP, 1, 32 * 86400, 32 * 86400, 0, 0);
        gaps(at(Due.day(2023, 1, 29), 0, 1, 1, 0), CLAMP, 1, 31 * 86400, 31 * 86400, 0, 0);
    }

    private static void runsFirst() {
        Due.sentence(27, "the ROW: the most, the first k ahead of the fewest, the first k ahead of the most");
        // months of 31, 28, 31, 30, 31, 30, 31, 31, 30, 31, 30, 31 days from the 1st of January on
        int day = Due.day(2023, 1, 1);
        gaps(at(day, 0, 1, 0, 0), CLAMP, 1, 31 * 86400, 31 * 86400, 0, 0);
        gaps(at(day, 0, 1, 0, 0), CLAMP, 2, 28 * 86400, 31 * 86400, 1, 0);
        gaps(at(day, 0, 1, 0, 0), CLAMP, 12, 28 * 86400, 31 * 86400, 1, 0);
        gaps(at(day, 0, 1, 0, 0), CLAMP, 14, 28 * 86400, 31 * 86400, 1, 0);
        gaps(at(Due.day(2023, 4, 1), 0, 1, 0, 0), CLAMP, 3, 30 * 86400, 31 * 86400, 0, 1);
        gaps(at(Due.day(2023, 4, 1), 0, 1, 0, 0), CLAMP, 10, 30 * 86400, 31 * 86400, 0, 1);
        gaps(at(Due.day(2023, 4, 1), 0, 1, 0, 0), CLAMP, 11, 29 * 86400, 31 * 86400, 10, 1);
        gaps(at(Due.day(2023, 1, 31), 0, 1, 0, 0), OVER, 3, 28 * 86400, 31 * 86400, 1, 0);
    }

    private static void runsFail() {
        Due.sentence(27, "-1000002: one fails");
        int day = Due.day(2023, 1, 31);
        gapsNot(at(day, 0, 1, 0, 0), STRICT, 1, -1000002);
        gapsNot(at(day, 0, 1, 0, 0), STRICT, 2, -1000002);
        gaps(at(Due.day(2023, 7, 31), 0, 1, 0, 0), STRICT, 1, 31 * 86400, 31 * 86400, 0, 0);
        gapsNot(at(Due.day(2023, 7, 31), 0, 1, 0, 0), STRICT, 2, -1000002);
        gaps(at(LAST - 1000, 0, 0, 1, 0), CLAMP, 1000, 86400, 86400, 0, 0);
        gapsNot(at(LAST - 999, 0, 0, 1, 0), CLAMP, 1000, -1000002);
        gapsNot(at(LAST, 0, 0, 1, 0), CLAMP, 1, -1000002);
        Due.sentence(27, "-1000009: beyond bounds");
        for (int k = 0; k < 3; k++) {
            for (int sign = -1; sign < 2; sign += 2) {
                int[] within = new int[3];
                within[k] = sign * 1000000;
                int[] beyond = new int[3];
                beyond[k] = sign * 1000001;
                int from = sign < 0 ? LAST : 0;
                if (k == 2) {
                    gaps(at(from, 0, 0, 0, within[2]), CLAMP, 1000, within[2], within[2], 0, 0);
                    gaps(at(from, 0, 0, 0, beyond[2]), CLAMP, 999, beyond[2], beyond[2], 0, 0);
                } else {
                    gapsNot(at(from, 0, within[0], within[1], 0), CLAMP, 1000, -1000002);
                    gapsNot(at(from, 0, beyond[0], beyond[1], 0), CLAMP, 999, -1000002);
                }
                gapsNot(at(from, 0, beyond[0], beyond[1], beyond[2]), CLAMP, 1000, -1000009);
            }
        }
    }

    // ---- promise 28

    private static void finds(DateSpans x, int law, int k, int day, int second) {
        Held held = Held.of(x).row(day, second);
        Due.same("next by " + law, x.next(1, 2, law, 3), k);
        held.ends("next by " + law);
    }

    private static void findsNot(DateSpans x, int law) {
        Held held = Held.of(x);
        Due.same("next by " + law, x.next(1, 2, law, 3), -2);
        held.ends("next by " + law);
    }

    private static DateSpans goal(DateSpans x, int day, int second) {
        x.sets(3, day, second);
        return x;
    }

    private static void next() {
        Due.sentence(28, "The least k (0 .. 10000) by which k times the SPAN at once .. is not ahead of MOMENT j");
        int day = Due.day(2023, 1, 31);
        finds(goal(at(day, 5, 1, 0, 0), day, 5), CLAMP, 0, day, 5);
        finds(goal(at(day, 5, 1, 0, 0), day, 4), CLAMP, 0, day, 5);
        finds(goal(at(day, 5, 1, 0, 0), 0, 0), CLAMP, 0, day, 5);
        finds(goal(at(day, 5, 1, 0, 0), day, 6), CLAMP, 1, Due.day(2023, 2, 28), 5);
        finds(goal(at(day, 5, 1, 0, 0), Due.day(2023, 2, 28), 5), CLAMP, 1, Due.day(2023, 2, 28), 5);
        finds(goal(at(day, 5, 1, 0, 0), Due.day(2023, 2, 28), 6), CLAMP, 2, Due.day(2023, 3, 31), 5);
        finds(goal(at(day, 5, 1, 0, 0), Due.day(2023, 3, 31), 5), CLAMP, 2, Due.day(2023, 3, 31), 5);
        finds(goal(at(day, 5, 1, 0, 0), Due.day(2023, 3, 31), 5), OVER, 2, Due.day(2023, 3, 31), 5);
        finds(goal(at(day, 5, 1, 0, 0), Due.day(2023, 3, 1), 0), OVER, 1, Due.day(2023, 3, 3), 5);
        finds(goal(at(day, 5, 0, 0, 0), day, 5), CLAMP, 0, day, 5);
        Due.sentence(28, "(0 .. 10000)");
        finds(goal(at(5, 0, 0, 0, 1), 5, 10000), CLAMP, 10000, 5, 10000);
        findsNot(goal(at(5, 0, 0, 0, 1), 5, 10001), CLAMP);
        finds(goal(at(5, 0, 0, 1, 0), 10005, 0), CLAMP, 10000, 10005, 0);
        findsNot(goal(at(5, 0, 0, 1, 0), 10005, 1), CLAMP);
    }

    private static void nextAside() {
        Due.sentence(28, "(One that fails .. is left aside.)");
        int day = Due.day(2023, 1, 31);
        finds(goal(at(day, 5, 1, 0, 0), day + 1, 0), STRICT, 2, Due.day(2023, 3, 31), 5);
        finds(goal(at(day, 5, 1, 0, 0), Due.day(2023, 4, 1), 0), STRICT, 4, Due.day(2023, 5, 31), 5);
        findsNot(goal(at(LAST - 5, 5, 0, 1, 0), LAST, 6), CLAMP);
        finds(goal(at(LAST - 5, 5, 0, 1, 0), LAST, 5), CLAMP, 5, LAST, 5);
        Due.sentence(28, "(One that .. is beyond bounds, is left aside.)");
        finds(goal(at(0, 0, 0, 0, 100000), 11574, 6400), CLAMP, 10000, 11574, 6400);
        findsNot(goal(at(0, 0, 0, 0, 100001), 11574, 6400), CLAMP);
        finds(goal(at(0, 0, 0, 0, 100001), 11573, 0), CLAMP, 9999, 11573, 999909999 - 11573 * 86400);
        finds(goal(at(0, 0, 0, 0, MOST), 11574, 6400), CLAMP, 1, 11574, 6400);
        findsNot(goal(at(0, 0, 0, 0, MOST), 11574, 6401), CLAMP);
    }

    private static void nextNone() {
        Due.sentence(28, "-2: none");
        findsNot(goal(at(5, 5, 0, 0, 0), 5, 6), CLAMP);
        findsNot(goal(at(5, 5, -1, 0, 0), 5, 6), CLAMP);
        findsNot(goal(at(5, 5, 0, -1, 86399), 5, 6), CLAMP);
        finds(goal(at(5, 5, 0, -1, 86401), 5, 6), CLAMP, 1, 5, 6);
        // a month less 31 days leads back and, over February's end, no further
        findsNot(goal(at(Due.day(2023, 1, 1), 0, 1, -31, 0), Due.day(2023, 1, 2), 0), CLAMP);
        finds(goal(at(Due.day(2023, 1, 31), 0, 2, -59, 0), Due.day(2023, 1, 31), 1), CLAMP, 2, Due.day(2023, 2, 2), 0);
    }

    // ---- promise 29

    private static void comes(DateSpans x, int law, int n, int weekday, int times, int first) {
        Held held = Held.of(x).row(first);
        Due.same("falls by " + law + ", n " + n + ", " + weekday, x.falls(1, 2, law, n, weekday), times);
        held.ends("falls by " + law + ", n " + n + ", " + weekday);
    }

    private static void falls() {
        Due.sentence(29, "How many of 0, 1, .. n (0 .. 1000) times the SPAN .. come to a told day of the week (0 .. 6)");
        int monday = Due.day(2024, 1, 1);
        for (int weekday = 0; weekday < 7; weekday++) {
            comes(at(monday, 9, 0, 1, 0), CLAMP, 0, weekday, weekday == 0 ? 1 : 0, weekday == 0 ? 0 : -1);
            comes(at(monday, 9, 0, 1, 0), CLAMP, 6, weekday, 1, weekday);
            comes(at(monday, 9, 0, 1, 0), CLAMP, 7, weekday, weekday == 0 ? 2 : 1, weekday);
            comes(at(monday, 9, 0, 1, 0), CLAMP, 1000, weekday, 143, weekday);
            comes(at(monday, 9, 0, -1, 0), CLAMP, 6, weekday, 1, (7 - weekday) % 7);
        }
        Due.sentence(29, "the ROW: the first one of these times (NONE)");
        comes(at(monday, 9, 0, 7, 0), CLAMP, 1000, 0, 1001, 0);
        comes(at(monday, 9, 0, 7, 0), CLAMP, 1000, 1, 0, -1);
        comes(at(monday, 9, 0, 0, 0), CLAMP, 5, 0, 6, 0);
        comes(at(monday, 86399, 0, 0, 1), CLAMP, 5, 1, 5, 1);
        Due.sentence(29, "at once, .. by a LAW: 31 January, 29 February, 31 March 2024 are Wednesday, Thursday, Sunday");
        comes(at(Due.day(2024, 1, 31), 0, 1, 0, 0), CLAMP, 2, 6, 1, 2);
        comes(at(Due.day(2024, 1, 31), 0, 1, 0, 0), CLAMP, 2, 3, 1, 1);
        comes(at(Due.day(2024, 1, 31), 0, 1, 0, 0), OVER, 2, 5, 1, 1);
        comes(at(Due.day(2024, 1, 31), 0, 1, 0, 0), STRICT, 2, 3, 0, -1);
    }

    private static void fallsAside() {
        Due.sentence(29, "Those that fail, or are beyond bounds, aside");
        comes(at(LAST - 14, 0, 0, 7, 0), CLAMP, 2, 4, 3, 0);
        comes(at(LAST - 14, 0, 0, 7, 0), CLAMP, 3, 4, 3, 0);
        comes(at(LAST - 14, 0, 0, 7, 0), CLAMP, 1000, 4, 3, 0);
        // 604800 seconds are a week: 1000 times a week and 1653 weeks in one part, up to the bound and not beyond it
        comes(at(0, 0, 0, 0, 604800 * 2), CLAMP, 826, 0, 827, 0);
        comes(at(0, 0, 0, 0, 604800 * 2), CLAMP, 827, 0, 827, 0);
        comes(at(0, 0, 0, 0, 604800 * 2), CLAMP, 1000, 0, 827, 0);
        comes(at(0, 0, 0, 0, 604800), CLAMP, 1000, 0, 1001, 0);
        Due.sentence(29, "NONE: others");
        for (int weekday : of(-1, 7)) {
            DateSpans x = at(0, 0, 0, 7, 0);
            Held held = Held.of(x);
            Due.same("falls to " + weekday, x.falls(1, 2, CLAMP, 5, weekday), -1);
            held.ends("falls to " + weekday);
        }
        for (int n : of(-1, 1001)) {
            DateSpans x = at(0, 0, 0, 7, 0);
            Held held = Held.of(x);
            Due.same("falls n " + n, x.falls(1, 2, CLAMP, n, 0), -1);
            held.ends("falls n " + n);
        }
    }

    // ---- promise 30

    private static void nth() {
        Due.sentence(30, "The DAY of the n-th (1 .. 5; -1 .. -5: from the end) told day of the week (0 .. 6)");
        int[][] months = {{2023, 2}, {2024, 2}, {2026, 11}, {2024, 4}, {1, 1}, {9999, 12}, {1900, 2}, {2000, 2}};
        for (int[] m : months) {
            for (int weekday = 0; weekday < 7; weekday++) {
                DateSpans x = new DateSpans();
                for (int n = -5; n <= 5; n++) {
                    if (n != 0) {
                        LocalDate first = LocalDate.of(m[0], m[1], 1);
                        LocalDate date = first.with(TemporalAdjusters.dayOfWeekInMonth(n, DayOfWeek.of(weekday + 1)));
                        boolean stays = date.getMonthValue() == m[1];
                        Due.same("nth(" + m[0] + ", " + m[1] + ", " + weekday + ", " + n + ")",
                                x.nth(m[0], m[1], weekday, n), stays ? (int) (date.toEpochDay() + 719162) : -2);
                    }
                }
            }
        }
    }

    private static void nthNone() {
        Due.sentence(30, "-2: there is none");
        DateSpans x = Held.filled();
        Held held = Held.of(x);
        Due.same("nth", x.nth(2023, 2, 0, 5), -2);
        Due.same("nth", x.nth(2023, 2, 0, -5), -2);
        Due.same("nth", x.nth(2024, 2, 2, 5), -2);
        Due.same("nth", x.nth(2024, 2, 3, 5), Due.day(2024, 2, 29));
        Due.same("nth", x.nth(2024, 2, 3, -5), Due.day(2024, 2, 1));
        Due.same("nth", x.nth(2024, 2, 4, -5), -2);
        Due.sentence(30, "NONE: no such month, year, others");
        for (int[] a : new int[][] {{0, 1, 0, 1}, {10000, 1, 0, 1}, {2024, 0, 0, 1}, {2024, 13, 0, 1}, {2024, 1, -1, 1},
            {2024, 1, 7, 1}, {2024, 1, 0, 0}, {2024, 1, 0, 6}, {2024, 1, 0, -6}}) {
            Due.same("nth", x.nth(a[0], a[1], a[2], a[3]), -1);
        }
        held.ends("nth");
        x = new DateSpans();
        Due.same("nth", x.nth(1, 1, 0, 1), 0);
        Due.same("nth", x.nth(1, 12, 0, 1), Due.day(1, 12, 3));
        Due.same("nth", x.nth(9999, 12, 4, -1), LAST);
        Due.same("nth", x.nth(9999, 1, 4, 1), Due.day(9999, 1, 1));
    }

    // ---- promise 31

    private static void works(int from, int to, int work, long... each) {
        DateSpans x = Held.filled();
        x.sets(4, from, 86399);
        x.sets(5, to, 0);
        Held held = Held.of(x).row(each);
        Due.same("workdays from " + from + " to " + to, x.workdays(4, 5), work);
        held.ends("workdays from " + from + " to " + to);
    }

    private static void workdays() {
        int monday = Due.day(2024, 1, 1);
        Due.sentence(31, "from that of MOMENT a on, up to that of b, b aside");
        works(monday, monday, 0, 0, 0, 0, 0, 0, 0, 0);
        works(monday, monday + 1, 1, 1, 0, 0, 0, 0, 0, 0);
        works(monday + 4, monday + 5, 1, 0, 0, 0, 0, 1, 0, 0);
        works(monday + 5, monday + 6, 0, 0, 0, 0, 0, 0, 1, 0);
        works(monday + 6, monday + 7, 0, 0, 0, 0, 0, 0, 0, 1);
        works(monday, monday + 7, 5, 1, 1, 1, 1, 1, 1, 1);
        works(monday, monday + 8, 6, 2, 1, 1, 1, 1, 1, 1);
        Due.sentence(31, "(if b is ahead: from that of b on, a aside, below 0); .. (not below 0)");
        works(monday + 1, monday, -1, 1, 0, 0, 0, 0, 0, 0);
        works(monday + 2, monday, -2, 1, 1, 0, 0, 0, 0, 0);
        works(monday + 9, monday, -7, 2, 2, 1, 1, 1, 1, 1);
        works(monday + 5, monday + 4, -1, 0, 0, 0, 0, 1, 0, 0);
        works(monday + 6, monday + 5, 0, 0, 0, 0, 0, 0, 1, 0);
        works(monday + 7, monday + 5, 0, 0, 0, 0, 0, 0, 1, 1);
        works(0, LAST, 2608614, 521723, 521723, 521723, 521723, 521722, 521722, 521722);
        works(LAST, 0, -2608614, 521723, 521723, 521723, 521723, 521722, 521722, 521722);
    }

    private static void workdaysAll() {
        Due.sentence(31, "the ROW: how many of all of these are Mondays, .. Sundays");
        int monday = Due.day(2024, 1, 1);
        for (int start = monday; start < monday + 7; start++) {
            for (int off = 0; off < 24; off++) {
                long[] each = new long[7];
                for (int day = start; day < start + off; day++) {
                    each[day % 7]++;
                }
                int work = (int) (each[0] + each[1] + each[2] + each[3] + each[4]);
                works(start, start + off, work, each);
                works(start + off, start, -work, each);
            }
        }
    }

    // ---- promise 32

    private static void shifted(int day, int n, int to, int passed) {
        DateSpans x = Held.filled();
        x.sets(4, day, 4321);
        Held held = Held.of(x).moment(6, to, 4321).row(passed);
        Due.same("shifts from " + day + " by " + n, x.shifts(4, n, 6), to);
        held.ends("shifts from " + day + " by " + n);
    }

    private static void shiftedNot(int day, int n, int due) {
        DateSpans x = Held.filled();
        x.sets(4, day, 4321);
        Held held = Held.of(x);
        Due.same("shifts from " + day + " by " + n, x.shifts(4, n, 6), due);
        held.ends("shifts from " + day + " by " + n);
    }

    private static void shifts() {
        int friday = Due.day(2024, 1, 5);
        Due.sentence(32, "goes on by n .. days that are Monday to Friday, one by one; the ROW: how many other days were passed");
        shifted(friday - 1, 1, friday, 0);
        shifted(friday, 1, friday + 3, 2);
        shifted(friday + 1, 1, friday + 3, 1);
        shifted(friday + 2, 1, friday + 3, 0);
        shifted(friday, 5, friday + 7, 2);
        shifted(friday, 6, friday + 10, 4);
        Due.sentence(32, "(back, if n is below 0; SECOND stays)");
        shifted(friday, -1, friday - 1, 0);
        shifted(friday + 3, -1, friday, 2);
        shifted(friday + 2, -1, friday, 1);
        shifted(friday + 1, -1, friday, 0);
        shifted(friday + 3, -5, friday - 4, 2);
        shifted(friday + 3, -6, friday - 7, 4);
        Due.sentence(32, "by n: by none");
        shifted(friday, 0, friday, 0);
        shifted(friday + 1, 0, friday + 1, 0);
        shifted(LAST, 0, LAST, 0);
        shifted(0, 0, 0, 0);
    }

    private static void shiftsEnds() {
        Due.sentence(32, "-2");
        shifted(LAST - 1, 1, LAST, 0);
        shiftedNot(LAST, 1, -2);
        shiftedNot(LAST - 1, 2, -2);
        shifted(1, -1, 0, 0);
        shiftedNot(0, -1, -2);
        shiftedNot(1, -2, -2);
        shifted(LAST - 13999, 10000, LAST, 3999);
        shifted(LAST - 13998, 10000, LAST, 3998);
        shiftedNot(LAST - 13997, 10000, -2);
        shiftedNot(LAST, 10000, -2);
        Due.sentence(32, "NONE: another n, too");
        shifted(0, 10000, 14000, 4000);
        shifted(14000, -10000, 0, 4000);
        shiftedNot(0, 10001, -1);
        shiftedNot(3000000, -10001, -1);
        shiftedNot(3000000, Integer.MIN_VALUE, -1);
        Due.sentence(32, "into SLOT to: every one of them");
        for (int to = 0; to < 8; to++) {
            DateSpans x = Held.filled();
            x.sets(4, 700, 4321);
            Held held = Held.of(x).moment(to, 707, 4321).row(2);
            Due.same("shifts to " + to, x.shifts(4, 5, to), 707);
            held.ends("shifts to " + to);
        }
    }

    private static void shiftsAll() {
        Due.sentence(32, "one by one: each n from each day of a week");
        for (int start = 700; start < 707; start++) {
            for (int n = -13; n < 14; n++) {
                int day = start;
                int passed = 0;
                for (int left = Math.abs(n); left > 0;) {
                    day += n < 0 ? -1 : 1;
                    if (day % 7 < 5) {
                        left--;
                    } else {
                        passed++;
                    }
                }
                shifted(start, n, day, passed);
            }
        }
    }
}
