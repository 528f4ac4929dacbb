import java.time.LocalDate;

/** Differences sentence by sentence: promises 19 to 21, each boundary on both sides. */
public final class DifferenceEdgesTest {
    private static final int LAST = 3652058;
    private static final int CLAMP = 0;
    private static final int OVER = 1;
    private static final int END = 2;
    private static final int STRICT = 3;

    private DifferenceEdgesTest() {
    }

    public static void main(String[] args) {
        units();
        yearsAlone();
        notBeyond();
        ahead();
        notFailing();
        returnsOrNot();
        greatest();
        betweenHolds();
        betweenAll();
        size();
        leastDays();
        leastAhead();
        leastOfLikeOnes();
        leastBeyondBetween();
        leastAll();
        age();
        ageClamps();
        ageEnds();
        Due.ends("DifferenceEdgesTest");
    }

    private static DateSpans from(int day, int second, int toDay, int toSecond) {
        DateSpans x = Held.filled();
        x.sets(4, day, second);
        x.sets(5, toDay, toSecond);
        return x;
    }

    private static void tells(DateSpans x, int law, int units, int months, int days, int seconds, int returns) {
        String call = "between by " + law + ", " + units;
        Held held = Held.of(x).span(6, months, days, seconds).row(months, days, seconds, returns);
        Due.same(call, x.between(4, 5, law, units, 6), months);
        held.still(call);
    }

    // ---- promise 19

    private static void units() {
        Due.sentence(19, "(bits: 1 years, 2 months, 4 days; at least one)");
        int from = Due.day(2023, 1, 10);
        int to = Due.day(2024, 3, 13);
        int[][] due = {{12, 0, 63 * 86400 + 5}, {14, 0, 3 * 86400 + 5}, {14, 0, 3 * 86400 + 5}, {0, 428, 5}, {12, 63, 5},
            {14, 3, 5}, {14, 3, 5}};
        for (int units = 1; units <= 7; units++) {
            int[] d = due[units - 1];
            DateSpans x = from(from, 0, to, 5);
            x.between(4, 5, CLAMP, units, 6);
            Due.span(x, 6, d[0], d[1], d[2]);
            // by years alone the leap day between is counted once to and not back
            Due.row(x, d[0], d[1], d[2], (units & 3) == 1 ? 0 : 1);
            x = from(to, 5, from, 0);
            x.between(4, 5, CLAMP, units, 6);
            int[] back = {-d[0], -d[1], -d[2]};
            if (units == 1 || units == 5) {
                // from 13 March a year back is 13 March 2023: it has one day less to go than 10 January has
                back = units == 1 ? new int[] {-12, 0, -62 * 86400 - 5} : new int[] {-12, -62, -5};
            }
            Due.span(x, 6, back[0], back[1], back[2]);
        }
    }

    private static void yearsAlone() {
        Due.sentence(19, "with years alone: multiples of 12");
        int from = Due.day(2022, 5, 10);
        for (int months = 0; months <= 26; months++) {
            LocalDate to = LocalDate.of(2022, 5, 10).plusMonths(months);
            int day = (int) (to.toEpochDay() + 719162);
            DateSpans x = from(from, 0, day, 0);
            int years = months / 12 * 12;
            int rest = day - (int) (LocalDate.of(2022, 5, 10).plusMonths(years).toEpochDay() + 719162);
            x.between(4, 5, CLAMP, 5, 6);
            Due.span(x, 6, years, rest, 0);
            x.between(4, 5, CLAMP, 1, 6);
            Due.span(x, 6, years, 0, rest * 86400);
            x.between(4, 5, CLAMP, 2, 6);
            Due.span(x, 6, months, 0, 0);
            Due.sentence(19, "without years and months: none");
            x.between(4, 5, CLAMP, 4, 6);
            Due.span(x, 6, 0, day - from, 0);
            Due.sentence(19, "with years alone: multiples of 12");
        }
    }

    private static void notBeyond() {
        Due.sentence(19, "the most MONTHS that .. lead not beyond b");
        int a = Due.day(2024, 2, 10);
        int b = Due.day(2024, 3, 10);
        tells(from(a, 500, b, 499), CLAMP, 7, 0, 28, 86399, 1);
        tells(from(a, 500, b, 500), CLAMP, 7, 1, 0, 0, 1);
        tells(from(a, 500, b, 501), CLAMP, 7, 1, 0, 1, 1);
        tells(from(a, 500, b, 499), CLAMP, 2, 0, 0, 29 * 86400 - 1, 1);
        tells(from(a, 500, b, 500), CLAMP, 2, 1, 0, 0, 1);
        int year = Due.day(2025, 2, 10);
        tells(from(a, 500, year, 499), CLAMP, 1, 0, 0, 366 * 86400 - 1, 1);
        tells(from(a, 500, year, 500), CLAMP, 1, 12, 0, 0, 1);
        Due.sentence(19, "with days, the most DAYS likewise (whole ones, from there on); then SECONDS");
        tells(from(a, 500, a + 1, 499), CLAMP, 4, 0, 0, 86399, 1);
        tells(from(a, 500, a + 1, 500), CLAMP, 4, 0, 1, 0, 1);
        tells(from(a, 500, a, 500), CLAMP, 7, 0, 0, 0, 1);
        tells(from(a, 500, a, 501), CLAMP, 7, 0, 0, 1, 1);
        tells(from(a, 500, b + 2, 499), CLAMP, 7, 1, 1, 86399, 1);
        tells(from(a, 500, b + 2, 500), CLAMP, 7, 1, 2, 0, 1);
    }

    private static void ahead() {
        Due.sentence(19, "(if b is ahead of a: MONTHS below 0 likewise, the most of them)");
        int a = Due.day(2024, 3, 10);
        int b = Due.day(2024, 2, 10);
        tells(from(a, 500, b, 501), CLAMP, 7, 0, -28, -86399, 1);
        tells(from(a, 500, b, 500), CLAMP, 7, -1, 0, 0, 1);
        tells(from(a, 500, b, 499), CLAMP, 7, -1, 0, -1, 1);
        tells(from(a, 500, a, 499), CLAMP, 7, 0, 0, -1, 1);
        tells(from(a, 500, a - 1, 501), CLAMP, 7, 0, 0, -86399, 1);
        tells(from(a, 500, a - 1, 500), CLAMP, 7, 0, -1, 0, 1);
        int year = Due.day(2023, 3, 10);
        tells(from(a, 500, year, 501), CLAMP, 5, 0, -365, -86399, 1);
        tells(from(a, 500, year, 500), CLAMP, 5, -12, 0, 0, 1);
        Due.sentence(19, "MONTHS below 0, the most of them: by OVER into the month that it was");
        int last = Due.day(2023, 3, 31);
        tells(from(last, 0, Due.day(2023, 3, 3), 0), OVER, 7, -1, 0, 0, 0);
        tells(from(last, 0, Due.day(2023, 3, 4), 0), OVER, 7, 0, -27, 0, 1);
        tells(from(last, 0, Due.day(2023, 2, 28), 0), OVER, 7, -1, -3, 0, 1);
        tells(from(last, 0, Due.day(2023, 1, 31), 0), OVER, 7, -2, 0, 0, 1);
        tells(from(last, 0, Due.day(2023, 2, 1), 0), OVER, 7, -1, -30, 0, 1);
    }

    private static void notFailing() {
        Due.sentence(19, "the most MONTHS that can be added to a by the LAW and do not fail");
        int a = Due.day(2023, 1, 31);
        tells(from(a, 0, Due.day(2023, 3, 30), 0), STRICT, 7, 0, 58, 0, 1);
        tells(from(a, 0, Due.day(2023, 3, 31), 0), STRICT, 7, 2, 0, 0, 1);
        tells(from(a, 0, Due.day(2023, 4, 30), 0), STRICT, 7, 2, 30, 0, 0);
        tells(from(a, 0, Due.day(2023, 4, 30), 0), CLAMP, 7, 3, 0, 0, 0);
        tells(from(a, 0, Due.day(2023, 4, 30), 0), END, 7, 3, 0, 0, 1);
        tells(from(a, 0, Due.day(2023, 4, 30), 0), OVER, 7, 2, 30, 0, 1);
        tells(from(a, 0, Due.day(2023, 5, 1), 0), OVER, 7, 3, 0, 0, 0);
        Due.sentence(19, "with years alone, by STRICT: a 29th of February, and none in 1900");
        int leap = Due.day(1896, 2, 29);
        tells(from(leap, 0, Due.day(1904, 2, 28), 86399), STRICT, 1, 0, 0, 2921 * 86400 - 1, 1);
        tells(from(leap, 0, Due.day(1904, 2, 29), 0), STRICT, 1, 96, 0, 0, 1);
        tells(from(leap, 0, Due.day(1904, 2, 28), 0), STRICT, 5, 0, 2920, 0, 1);
        tells(from(Due.day(2024, 2, 29), 0, Due.day(2028, 2, 28), 0), STRICT, 5, 0, 1460, 0, 1);
        tells(from(Due.day(2024, 2, 29), 0, Due.day(2028, 2, 29), 0), STRICT, 5, 48, 0, 0, 1);
        tells(from(Due.day(2024, 2, 29), 0, Due.day(2025, 2, 28), 0), CLAMP, 5, 12, 0, 0, 0);
        tells(from(Due.day(2024, 2, 29), 0, Due.day(2025, 2, 28), 0), OVER, 5, 0, 365, 0, 1);
        tells(from(Due.day(2024, 2, 29), 0, Due.day(2025, 2, 27), 86399), CLAMP, 5, 0, 364, 86399, 1);
    }

    private static void returnsOrNot() {
        Due.sentence(19, "1 if it, TURNED and ADDED to b by that LAW, ORDER 0, returns a, else 0");
        int a = Due.day(2023, 1, 30);
        tells(from(a, 0, Due.day(2023, 2, 28), 0), CLAMP, 7, 1, 0, 0, 0);
        tells(from(Due.day(2023, 1, 28), 0, Due.day(2023, 2, 28), 0), CLAMP, 7, 1, 0, 0, 1);
        tells(from(Due.day(2023, 1, 28), 0, Due.day(2023, 2, 28), 0), END, 7, 1, 0, 0, 0);
        tells(from(Due.day(2023, 1, 31), 0, Due.day(2023, 2, 28), 0), END, 7, 1, 0, 0, 1);
        Due.sentence(19, "else 0: to another SECOND alone, and if it fails");
        tells(from(Due.day(2023, 3, 30), 5, Due.day(2023, 4, 30), 4), STRICT, 7, 0, 30, 86399, 1);
        tells(from(Due.day(2023, 1, 28), 5, Due.day(2023, 3, 29), 5), STRICT, 7, 2, 1, 0, 1);
        tells(from(Due.day(2023, 2, 28), 5, Due.day(2023, 3, 31), 5), STRICT, 7, 1, 3, 0, 0);
        Due.sentence(19, "ORDER 0: MONTHS first");
        tells(from(Due.day(2023, 2, 28), 0, Due.day(2023, 4, 1), 0), CLAMP, 7, 1, 4, 0, 0);
        tells(from(Due.day(2023, 1, 31), 0, Due.day(2023, 3, 1), 0), CLAMP, 7, 1, 1, 0, 1);
    }

    private static void greatest() {
        Due.sentence(19, "from the first MOMENT to the last one, and back");
        tells(from(0, 0, LAST, 86399), CLAMP, 7, 119987, 30, 86399, 1);
        tells(from(LAST, 86399, 0, 0), CLAMP, 7, -119987, -30, -86399, 1);
        tells(from(0, 0, LAST, 86399), CLAMP, 4, 0, LAST, 86399, 1);
        tells(from(LAST, 86399, 0, 0), CLAMP, 4, 0, -LAST, -86399, 1);
        tells(from(0, 0, LAST, 86399), CLAMP, 5, 119976, 364, 86399, 1);
        tells(from(0, 0, LAST, 86399), CLAMP, 1, 119976, 0, 364 * 86400 + 86399, 1);
        tells(from(LAST, 86399, 0, 0), CLAMP, 1, -119976, 0, -364 * 86400 - 86399, 1);
        tells(from(0, 0, LAST, 86399), CLAMP, 2, 119987, 0, 30 * 86400 + 86399, 1);
        Due.sentence(19, "a MOMENT a of the last days: a month more fails");
        tells(from(LAST - 30, 0, LAST, 0), CLAMP, 7, 0, 30, 0, 1);
        tells(from(LAST - 31, 0, LAST, 0), CLAMP, 7, 1, 1, 0, 0);
        tells(from(30, 0, 0, 0), CLAMP, 7, 0, -30, 0, 1);
        tells(from(31, 0, 0, 0), CLAMP, 7, -1, 0, 0, 1);
    }

    private static void betweenHolds() {
        Due.sentence(19, "comes to SPAN to: .. the ROW: MONTHS, DAYS, SECONDS, 1 ..");
        for (int to = 0; to < 8; to++) {
            DateSpans x = from(Due.day(2023, 1, 10), 5, Due.day(2023, 3, 12), 8);
            Held held = Held.of(x).span(to, 2, 2, 3).row(2, 2, 3, 1);
            Due.same("between to " + to, x.between(4, 5, CLAMP, 7, to), 2);
            held.ends("between to " + to);
        }
        Due.sentence(19, "MONTHS below 0 that are meant: the ROW is told");
        int[][] back = {{1, 0}, {2, 0}, {9, 0}, {21, 0}};
        for (int[] b : back) {
            LocalDate to = LocalDate.of(2023, 3, 10).minusMonths(b[0]);
            DateSpans x = from(Due.day(2023, 3, 10), 0, (int) (to.toEpochDay() + 719162), 0);
            Held held = Held.of(x).span(6, -b[0], 0, 0).row(-b[0], 0, 0, 1);
            Due.same("between", x.between(4, 5, CLAMP, 7, 6), -b[0]);
            held.ends("between of -" + b[0] + " months");
        }
    }

    /** The difference by its very words: all months tried, the most taken. */
    private static long[] byWords(long from, long to, int law, int units) {
        int way = to < from ? -1 : 1;
        long months = 0;
        int step = (units & 3) == 0 ? 1000 : (units & 3) == 1 ? 12 : 1;
        for (int n = step; n < 40; n += step) {
            long[] at = Model.added(from, new long[] {way * n, 0, 0}, law, 0);
            if (at != null && (at[0] - to) * way <= 0) {
                months = way * n;
            }
        }
        long there = Model.added(from, new long[] {months, 0, 0}, law, 0)[0];
        long days = 0;
        while ((units & 4) != 0 && (there + (days + way) * 86400 - to) * way <= 0) {
            days += way;
        }
        long seconds = to - there - days * 86400;
        long[] back = Model.added(to, new long[] {-months, -days, -seconds}, law, 0);
        return new long[] {months, days, seconds, back != null && back[0] == from ? 1 : 0};
    }

    private static void betweenAll() {
        Due.sentence(19, "The difference from MOMENT a to MOMENT b by a LAW, in UNITS: round the ends of months");
        int[] starts = {Due.day(2023, 1, 28), Due.day(2023, 1, 31), Due.day(2023, 2, 28), Due.day(2023, 3, 1),
            Due.day(2023, 3, 30), Due.day(2023, 3, 31), Due.day(2024, 2, 28), Due.day(2024, 2, 29), Due.day(2024, 3, 31)};
        for (int start : starts) {
            for (int off = -430; off < 430; off += off > -70 && off < 70 ? 1 : 9) {
                DateSpans x = new DateSpans();
                x.sets(4, start, 40000);
                x.sets(5, start + off, off % 2 == 0 ? 40000 : 39999);
                for (int k = 0; k < 28; k++) {
                    long[] due = byWords(start * 86400L + 40000, (start + off) * 86400L + 40000 - Math.abs(off % 2), k % 4,
                            1 + k / 4);
                    String call = "between " + x.date(start) + " and " + off + " days by " + k % 4 + ", " + (1 + k / 4);
                    Due.same(call, x.between(4, 5, k % 4, 1 + k / 4, 6), due[0]);
                    for (int j = 0; j < 4; j++) {
                        Due.same(call + ", row(" + j + ")", x.row(j), due[j]);
                    }
                }
            }
        }
    }

    // ---- promise 20

    private static void phrase(DateSpans x, int law, int size, int months, int days) {
        Held held = Held.of(x).row(months, days);
        Due.same("least by " + law, x.least(4, 5, law), size);
        held.still("least by " + law);
    }

    private static int plus(int year, int month, int day, int months, int days) {
        return (int) (LocalDate.of(year, month, day).plusMonths(months).plusDays(days).toEpochDay() + 719162);
    }

    private static void size() {
        Due.sentence(20, "SIZE: years, months, weeks, days (12 months a year, 7 days a week, towards 0) .. together");
        int[][] all = {{0, 0, 0}, {0, 1, 1}, {0, 6, 6}, {0, 7, 1}, {0, 8, 2}, {0, 14, 2}, {0, 13, 7}, {1, 0, 1}, {1, 1, 2},
            {1, 7, 2}, {10, 0, 10}, {12, 0, 1}, {12, 1, 2}, {13, 0, 2}, {22, 0, 11}, {24, 0, 2}, {25, 7, 4}, {34, 1, 13},
            {120, 0, 10}, {130, 7, 21}};
        for (int[] a : all) {
            phrase(from(plus(2001, 3, 1, 0, 0), 0, plus(2001, 3, 1, a[0], a[1]), 0), CLAMP, a[2], a[0], a[1]);
        }
        Due.sentence(20, "the numbers without signs");
        phrase(from(plus(2001, 3, 1, 0, 0), 0, plus(2001, 3, 1, 1, -1), 0), CLAMP, 2, 1, -1);
        phrase(from(plus(2001, 3, 1, 0, 0), 0, plus(2001, 3, 1, 1, -7), 0), CLAMP, 2, 1, -7);
        phrase(from(plus(2001, 3, 1, 0, 0), 0, plus(2001, 3, 1, 12, -8), 0), CLAMP, 3, 12, -8);
        phrase(from(plus(2001, 3, 1, 0, 0), 0, plus(2001, 3, 1, 22, -1), 0), CLAMP, 12, 22, -1);
    }

    private static void leastDays() {
        Due.sentence(20, "(SECOND 0 each)");
        int day = Due.day(2001, 3, 1);
        phrase(from(day, 86399, day + 31, 0), CLAMP, 1, 1, 0);
        phrase(from(day, 0, day + 31, 86399), CLAMP, 1, 1, 0);
        phrase(from(day, 86399, day, 0), CLAMP, 0, 0, 0);
        phrase(from(day, 0, day, 86399), CLAMP, 0, 0, 0);
        phrase(from(day, 86399, day - 1, 86399), CLAMP, 1, 0, -1);
        Due.sentence(20, "MONTHS that do not fail");
        int last = Due.day(2023, 1, 31);
        phrase(from(last, 0, Due.day(2023, 2, 28), 0), STRICT, 4, 0, 28);
        phrase(from(last, 0, Due.day(2023, 2, 28), 0), CLAMP, 1, 1, 0);
        phrase(from(last, 0, Due.day(2023, 2, 28), 0), OVER, 4, 0, 28);
        phrase(from(last, 0, Due.day(2023, 3, 3), 0), OVER, 1, 1, 0);
        phrase(from(last, 0, Due.day(2023, 3, 31), 0), STRICT, 2, 2, 0);
        phrase(from(Due.day(2023, 2, 28), 0, Due.day(2023, 3, 31), 0), END, 1, 1, 0);
        phrase(from(Due.day(2023, 2, 28), 0, Due.day(2023, 3, 31), 0), CLAMP, 4, 1, 3);
    }

    private static void leastAhead() {
        Due.sentence(20, "(all below 0, if b is ahead)");
        int[][] all = {{0, -1, 1}, {0, -7, 1}, {-1, 0, 1}, {-1, -1, 2}, {-12, 0, 1}, {-13, -7, 3}, {-1, 1, 2}, {-12, 8, 3}};
        for (int[] a : all) {
            phrase(from(plus(2001, 3, 15, 0, 0), 0, plus(2001, 3, 15, a[0], a[1]), 0), CLAMP, a[2], a[0], a[1]);
        }
        Due.sentence(20, "(all below 0, if b is ahead): months that fail, for there is no year 0");
        phrase(from(31, 0, 0, 0), CLAMP, 1, -1, 0);
        phrase(from(30, 0, 0, 0), CLAMP, 6, 0, -30);
        phrase(from(LAST - 30, 0, LAST, 0), CLAMP, 6, 0, 30);
        phrase(from(LAST - 31, 0, LAST, 0), CLAMP, 2, 1, 1);
        phrase(from(0, 0, LAST, 0), CLAMP, 9998 + 11 + 4 + 2, 119987, 30);
        phrase(from(LAST, 0, 0, 0), CLAMP, 9998 + 11 + 4 + 2, -119987, -30);
    }

    private static void leastOfLikeOnes() {
        Due.sentence(20, "of like ones the fewest MONTHS");
        // 25 days, or a month less 6 days: 7 both
        phrase(from(Due.day(2024, 1, 1), 0, Due.day(2024, 1, 26), 0), CLAMP, 7, 0, 25);
        // 26 days are 8, a month less 5 days are 6
        phrase(from(Due.day(2024, 1, 1), 0, Due.day(2024, 1, 27), 0), CLAMP, 6, 1, -5);
        phrase(from(Due.day(2024, 1, 31), 0, Due.day(2024, 1, 6), 0), CLAMP, 7, 0, -25);
        phrase(from(Due.day(2024, 1, 31), 0, Due.day(2024, 1, 5), 0), CLAMP, 6, -1, 5);
        // a month, or by CLAMP the same by two of them in no way: 29 days are a month from the 30th on and from the 31st on
        phrase(from(Due.day(2024, 1, 30), 0, Due.day(2024, 2, 29), 0), CLAMP, 1, 1, 0);
        phrase(from(Due.day(2024, 1, 31), 0, Due.day(2024, 2, 29), 0), CLAMP, 1, 1, 0);
    }

    private static void leastBeyondBetween() {
        Due.sentence(20, "MONTHS n from 0 to what between() tells of these DAYS .., and 12 more");
        int day = Due.day(2001, 3, 1);
        for (int more = 1; more <= 4; more++) {
            // between tells 12 - more months and some days: a year less whole weeks is told more shortly
            int weeks = more == 4 ? 14 : 4 * more;
            DateSpans x = from(day, 0, plus(2001, 3, 1, 12, -7 * weeks), 0);
            long[] due = leastByWords(day, plus(2001, 3, 1, 12, -7 * weeks), CLAMP);
            phrase(x, CLAMP, (int) due[0], (int) due[1], (int) due[2]);
        }
        phrase(from(day, 0, plus(2001, 3, 1, 12, -28), 0), CLAMP, 5, 12, -28);
        phrase(from(day, 0, plus(2001, 3, 1, 12, -56), 0), CLAMP, 9, 12, -56);
        phrase(from(day, 0, plus(2001, 3, 1, 24, -28), 0), CLAMP, 6, 24, -28);
        phrase(from(plus(2001, 3, 1, 12, -28), 0, day, 0), CLAMP, 5, -12, 28);
    }

    private static long[] leastByWords(int from, int to, int law) {
        int way = to < from ? -1 : 1;
        long most = Math.abs(byWords(from * 86400L, to * 86400L, law, 7)[0]) + 12;
        long[] least = null;
        for (long n = 0; n <= most; n++) {
            long[] at = Model.added(from * 86400L, new long[] {way * n, 0, 0}, law, 0);
            if (at != null) {
                long days = to - at[0] / 86400;
                long size = n / 12 + n % 12 + Math.abs(days) / 7 + Math.abs(days) % 7;
                if (least == null || size < least[0]) {
                    least = new long[] {size, way * n, days};
                }
            }
        }
        return least;
    }

    private static void leastAll() {
        Due.sentence(20, "The least phrase from the DAY of MOMENT a to that of b by a LAW: round the ends of months");
        int[] starts = {Due.day(2023, 1, 28), Due.day(2023, 1, 31), Due.day(2023, 2, 28), Due.day(2023, 3, 31),
            Due.day(2024, 2, 29), Due.day(2024, 5, 15)};
        for (int start : starts) {
            for (int off = -800; off < 800; off += 3) {
                DateSpans x = new DateSpans();
                x.sets(4, start, 5);
                x.sets(5, start + off, 4);
                for (int law = 0; law < 4; law++) {
                    long[] due = leastByWords(start, start + off, law);
                    String call = "least " + x.date(start) + " and " + off + " days by " + law;
                    Due.same(call, x.least(4, 5, law), due[0]);
                    Due.row(x, due[1], due[2]);
                }
            }
        }
    }

    // ---- promise 21

    private static void aged(int from, int fromSecond, int to, int toSecond, int years, int since, int till) {
        DateSpans x = from(from, fromSecond, to, toSecond);
        Held held = Held.of(x).row(since, till);
        Due.same("age", x.age(4, 5), years);
        held.ends("age");
    }

    private static void age() {
        Due.sentence(21, "Whole years from the DATE of MOMENT a to that of b");
        int born = Due.day(2001, 5, 10);
        aged(born, 0, Due.day(2002, 5, 9), 0, 0, 364, 1);
        aged(born, 0, Due.day(2002, 5, 10), 0, 1, 0, 365);
        aged(born, 0, Due.day(2002, 5, 11), 0, 1, 1, 364);
        aged(born, 0, Due.day(2011, 5, 9), 0, 9, 364, 1);
        aged(born, 0, Due.day(2011, 5, 10), 0, 10, 0, 366);
        Due.sentence(21, "from the DATE: SECONDS are none of it");
        aged(born, 86399, Due.day(2002, 5, 10), 0, 1, 0, 365);
        aged(born, 0, Due.day(2002, 5, 9), 86399, 0, 364, 1);
        aged(born, 86399, born, 0, 0, 0, 365);
        aged(born, 0, born, 86399, 0, 0, 365);
        Due.sentence(21, "(0, if b is ahead)");
        aged(born, 0, born - 1, 0, 0, -1, 366);
        aged(born, 0, Due.day(2000, 5, 10), 0, 0, -365, 730);
        aged(born, 0, Due.day(1990, 1, 1), 0, 0, Due.day(1990, 1, 1) - born, Due.day(2002, 5, 10) - Due.day(1990, 1, 1));
        aged(born, 0, 0, 0, 0, -born, born + 365);
    }

    private static void ageClamps() {
        Due.sentence(21, "as by CLAMP");
        int born = Due.day(2000, 2, 29);
        aged(born, 0, Due.day(2001, 2, 27), 0, 0, 364, 1);
        aged(born, 0, Due.day(2001, 2, 28), 0, 1, 0, 365);
        aged(born, 0, Due.day(2001, 3, 1), 0, 1, 1, 364);
        aged(born, 0, Due.day(2003, 2, 28), 0, 3, 0, 366);
        aged(born, 0, Due.day(2004, 2, 28), 0, 3, 365, 1);
        aged(born, 0, Due.day(2004, 2, 29), 0, 4, 0, 365);
        aged(born, 0, Due.day(2100, 2, 28), 0, 100, 0, 365);
    }

    private static void ageEnds() {
        Due.sentence(21, "DAYS from b to the next one (-2: there is none)");
        aged(Due.day(9998, 12, 31), 0, LAST - 1, 0, 0, 364, 1);
        aged(Due.day(9998, 12, 31), 0, LAST, 0, 1, 0, -2);
        aged(Due.day(9999, 1, 1), 0, LAST, 0, 0, 364, -2);
        aged(Due.day(9998, 1, 1), 0, Due.day(9998, 12, 31), 0, 0, 364, 1);
        aged(Due.day(9998, 1, 1), 0, Due.day(9999, 1, 1), 0, 1, 0, -2);
        aged(0, 0, LAST, 0, 9998, 364, -2);
        aged(LAST, 0, 0, 0, 0, -LAST, -2);
        aged(Due.day(9998, 12, 31), 0, 0, 0, 0, -Due.day(9998, 12, 31), LAST);
    }
}
