import java.time.LocalDate;
import java.time.temporal.ChronoUnit;
import java.time.temporal.IsoFields;

/** Days sentence by sentence: Terms 1 and promises 1, 5 and 7 to 12, each boundary on both sides. */
public final class DayEdgesTest {
    private static final int LAST = 3652058;
    private static final int MOST = 1000000000;
    private static final int FIRST_START = 730119;

    private DayEdgesTest() {
    }

    public static void main(String[] args) {
        days();
        leapYears();
        instants();
        aNewObject();
        aSecondObject();
        sets();
        parts();
        momentIs();
        momentIsLengths();
        spanIs();
        date();
        dayOfDate();
        noDayOfDate();
        week();
        weekOfYears();
        Due.ends("DayEdgesTest");
    }

    // ---- Terms 1

    private static void days() {
        Due.sentence(0, "DAYS are numbered: 0 is the 1st of January of the year 1, 3652058 the 31st of December of 9999");
        DateSpans x = new DateSpans();
        Due.same("date", x.date(0), 10101);
        Due.same("date", x.date(1), 10102);
        Due.same("date", x.date(-1), -1);
        Due.same("date", x.date(LAST), 99991231);
        Due.same("date", x.date(LAST - 1), 99991230);
        Due.same("date", x.date(LAST + 1), -1);
        Due.same("day", x.day(10101), 0);
        Due.same("day", x.day(99991231), LAST);
        Due.sentence(0, "DATE of a DAY: year times 10000, month (1 .. 12) times 100, day of the month, together");
        Due.same("date", x.date(Due.day(345, 6, 7)), 3450607);
        Due.same("date", x.date(Due.day(2024, 12, 31)), 20241231);
        Due.same("date", x.date(Due.day(2025, 1, 1)), 20250101);
        Due.sentence(0, "ALL STARTS: .. the 400 years from 1 January 2000 on (146097 DAYS, from 730119 on)");
        Due.same("day", x.day(20000101), FIRST_START);
        Due.same("day", x.day(24000101), FIRST_START + 146097);
    }

    private static void leapYears() {
        Due.sentence(0, "LEAP is a year that 4 divides, but not 100, or 400 does");
        for (int year = 1; year <= 9999; year++) {
            DateSpans x = new DateSpans();
            boolean leap = LocalDate.of(year, 1, 1).isLeapYear();
            Due.same("day of the 29th of February " + year, x.day(year * 10000 + 229),
                    leap ? Due.day(year, 2, 28) + 1 : -2);
            x.sets(0, Due.day(year, 7, 1), 0);
            Due.same("momentIs 6 in " + year, x.momentIs(0, 6), leap ? 1 : 0);
        }
    }

    private static void instants() {
        Due.sentence(0, "its INSTANT: 86400 times the DAY and the SECOND");
        int[][] all = {{0, 0}, {0, 1}, {0, 86399}, {1, 0}, {LAST, 0}, {LAST, 86399}, {738944, 45005}};
        for (int[] a : all) {
            DateSpans x = new DateSpans();
            x.sets(2, a[0], a[1]);
            Due.same("overlaps", x.overlaps(2, 2, 2, 2), 0);
            Due.row(x, a[0] * 86400L + a[1], 0);
        }
    }

    // ---- promise 1

    private static void aNewObject() {
        Due.sentence(0, "(DAY 0, SECOND 0 at first), (nothing at first), the ROW: at first it has none");
        DateSpans x = new DateSpans();
        for (int i = 0; i < 8; i++) {
            Due.moment(x, i, 0, 0);
            Due.span(x, i, 0, 0, 0);
        }
        Due.row(x);
        for (int what = 0; what < 4; what++) {
            Due.same("count(" + what + ")", x.count(what), 0);
        }
        Due.no("back()", x.back());
        Due.same("span of no text", x.span(0), -21);
        Due.same("NONE", DateSpans.NONE, -1);
    }

    private static void aSecondObject() {
        Due.sentence(1, "SLOTS as at first, whatever another object holds");
        DateSpans x = Held.filled();
        Held held = Held.of(x);
        DateSpans y = new DateSpans();
        Due.row(y);
        Due.no("back()", y.back());
        for (int what = 0; what < 4; what++) {
            Due.same("count(" + what + ")", y.count(what), 0);
        }
        y.sets(3, 9, 9);
        y.parts(3, 9, 9, 9);
        y.week(0);
        y.sign(0);
        y.keeps();
        held.ends("another object");
    }

    // ---- promises 5 and 7

    private static void sets() {
        Due.sentence(5, "SLOT i becomes a DAY and a SECOND: what DAY it was");
        for (int i = 0; i < 8; i++) {
            DateSpans x = Held.filled();
            int was = x.momentIs(i, 0);
            Held held = Held.of(x).moment(i, 10 + i, 20 + i);
            Due.same("sets(" + i + ")", x.sets(i, 10 + i, 20 + i), was);
            held.ends("sets(" + i + ")");
        }
        Due.sentence(5, "a DAY");
        settled(0, 5, true);
        settled(LAST, 5, true);
        settled(-1, 5, false);
        settled(LAST + 1, 5, false);
        Due.sentence(5, "NONE: no such SECOND, too");
        settled(5, 0, true);
        settled(5, 86399, true);
        settled(5, -1, false);
        settled(5, 86400, false);
    }

    private static void settled(int day, int second, boolean taken) {
        DateSpans x = Held.filled();
        x.sets(3, 77, 78);
        Held held = taken ? Held.of(x).moment(3, day, second) : Held.of(x);
        Due.same("sets(3, " + day + ", " + second + ")", x.sets(3, day, second), taken ? 77 : -1);
        held.ends("sets(3, " + day + ", " + second + ")");
    }

    private static void parts() {
        Due.sentence(7, "SLOT s becomes that SPAN: true");
        for (int s = 0; s < 8; s++) {
            DateSpans x = Held.filled();
            Held held = Held.of(x).span(s, -1 - s, 2 + s, -3 - s);
            Due.yes("parts(" + s + ")", x.parts(s, -1 - s, 2 + s, -3 - s));
            held.ends("parts(" + s + ")");
        }
        Due.sentence(0, "MONTHS, DAYS, SECONDS, each -1000000000 .. 1000000000, of any signs");
        int[] signs = {-1, 0, 1};
        for (int a : signs) {
            for (int b : signs) {
                for (int c : signs) {
                    stands(a * MOST, b * MOST, c * MOST, true);
                }
            }
        }
        Due.sentence(7, "false: no such SLOT, numbers");
        for (int beyond : new int[] {MOST + 1, -MOST - 1, Integer.MAX_VALUE, Integer.MIN_VALUE}) {
            stands(beyond, 1, 1, false);
            stands(1, beyond, 1, false);
            stands(1, 1, beyond, false);
        }
    }

    private static void stands(int months, int days, int seconds, boolean taken) {
        DateSpans x = Held.filled();
        Held held = taken ? Held.of(x).span(7, months, days, seconds) : Held.of(x);
        Due.same("parts(7, " + months + ", " + days + ", " + seconds + ")",
                x.parts(7, months, days, seconds) ? 1 : 0, taken ? 1 : 0);
        held.ends("parts(7, " + months + ", " + days + ", " + seconds + ")");
    }

    // ---- promises 8 and 9

    private static void is(int day, int what, int due) {
        DateSpans x = new DateSpans();
        x.sets(5, day, 4567);
        Due.same("momentIs of day " + day + ", " + what, x.momentIs(5, what), due);
    }

    private static void momentIs() {
        Due.sentence(8, "0: DAY, 1: SECOND, 2: DATE");
        for (int day : new int[] {0, 1, LAST - 1, LAST}) {
            is(day, 0, day);
            is(day, 1, 4567);
        }
        is(0, 2, 10101);
        is(LAST, 2, 99991231);
        Due.sentence(8, "3: day of the week (0 Monday .. 6; DAY 0 is a Monday)");
        for (int day = 0; day < 15; day++) {
            is(day, 3, day % 7);
        }
        is(Due.day(2024, 2, 29), 3, 3);
        is(Due.day(2026, 11, 20), 3, 4);
        is(LAST, 3, 4);
        Due.sentence(8, "4: day of the year (from 1 on)");
        is(0, 4, 1);
        is(364, 4, 365);
        is(365, 4, 1);
        is(Due.day(2024, 2, 29), 4, 60);
        is(Due.day(2024, 3, 1), 4, 61);
        is(Due.day(2023, 3, 1), 4, 60);
        is(Due.day(2024, 12, 31), 4, 366);
        is(Due.day(2023, 12, 31), 4, 365);
        is(LAST, 4, 365);
        Due.sentence(8, "6: 1, if its year is LEAP, else 0");
        is(Due.day(1999, 12, 31), 6, 0);
        is(Due.day(2000, 1, 1), 6, 1);
        is(Due.day(2000, 12, 31), 6, 1);
        is(Due.day(2001, 1, 1), 6, 0);
        is(Due.day(1900, 2, 28), 6, 0);
        Due.sentence(8, "NONE: another what");
        is(5, -1, -1);
        is(5, 7, -1);
        is(5, Integer.MIN_VALUE, -1);
        is(5, Integer.MAX_VALUE, -1);
    }

    private static void momentIsLengths() {
        Due.sentence(8, "5: how many days its month has");
        for (int year : new int[] {1, 4, 1900, 2000, 2023, 2024, 9999}) {
            for (int month = 1; month <= 12; month++) {
                int length = LocalDate.of(year, month, 1).lengthOfMonth();
                is(Due.day(year, month, 1), 5, length);
                is(Due.day(year, month, length), 5, length);
            }
        }
    }

    private static void spanIs() {
        Due.sentence(9, "what 0: MONTHS, 1: DAYS, 2: SECONDS");
        DateSpans x = new DateSpans();
        for (int s = 0; s < 8; s++) {
            x.parts(s, MOST - s, -1, -MOST + s);
        }
        for (int s = 0; s < 8; s++) {
            Due.span(x, s, MOST - s, -1, -MOST + s);
        }
        Due.sentence(9, "-2000000000 for others");
        for (int what : new int[] {-1, 3, Integer.MIN_VALUE, Integer.MAX_VALUE}) {
            Due.same("spanIs(0, " + what + ")", x.spanIs(0, what), -2000000000);
        }
        for (int s : new int[] {-1, 8, Integer.MIN_VALUE, Integer.MAX_VALUE}) {
            Due.same("spanIs(" + s + ", 0)", x.spanIs(s, 0), -2000000000);
        }
    }

    // ---- promises 10 and 11

    private static void date() {
        Due.sentence(10, "The DATE of a DAY: the last day of each month and the first one of the next");
        for (int year : new int[] {1, 2, 3, 4, 99, 100, 101, 399, 400, 401, 1899, 1900, 1999, 2000, 2001, 2100, 9996, 9998, 9999}) {
            DateSpans x = new DateSpans();
            for (int month = 1; month <= 12; month++) {
                LocalDate last = LocalDate.of(year, month, 1).plusMonths(1).minusDays(1);
                int day = Due.day(year, month, last.getDayOfMonth());
                Due.same("date(" + day + ")", x.date(day), number(last));
                Due.same("date(" + (day + 1) + ")", x.date(day + 1), day == LAST ? -1 : number(last.plusDays(1)));
                Due.same("day of " + last, x.day(number(last)), day);
            }
        }
    }

    private static int number(LocalDate date) {
        return date.getYear() * 10000 + date.getMonthValue() * 100 + date.getDayOfMonth();
    }

    private static void dayOfDate() {
        Due.sentence(11, "The DAY of a DATE");
        DateSpans x = new DateSpans();
        Due.same("day", x.day(10101), 0);
        Due.same("day", x.day(10131), 30);
        Due.same("day", x.day(10201), 31);
        Due.same("day", x.day(20000229), Due.day(2000, 2, 29));
        Due.same("day", x.day(99991231), LAST);
    }

    private static void noDayOfDate() {
        Due.sentence(11, "-2: there is none such");
        for (int year : new int[] {1, 4, 1900, 2000, 2023, 2024, 9999}) {
            DateSpans x = new DateSpans();
            for (int month = 1; month <= 12; month++) {
                int length = LocalDate.of(year, month, 1).lengthOfMonth();
                int first = year * 10000 + month * 100;
                Due.same("day(" + first + ")", x.day(first), -2);
                Due.same("day(" + (first + length + 1) + ")", x.day(first + length + 1), -2);
                Due.same("day(" + (first + 99) + ")", x.day(first + 99), -2);
                Due.same("day(" + (first + length) + ")", x.day(first + length), Due.day(year, month, length));
            }
            Due.same("month 0", x.day(year * 10000 + 1), -2);
            Due.same("month 13", x.day(year * 10000 + 1301), -2);
            Due.same("month 99", x.day(year * 10000 + 9901), -2);
        }
        DateSpans x = Held.filled();
        Held held = Held.of(x);
        for (int date : new int[] {-10101, -1, 0, 101, 1231, 100000101, 1000000101, Integer.MIN_VALUE, Integer.MAX_VALUE}) {
            Due.same("day(" + date + ")", x.day(date), -2);
        }
        held.ends("day of no date");
    }

    // ---- promise 12

    private static void week(int day, int week, int year) {
        DateSpans x = Held.filled();
        Held held = Held.of(x).row(year);
        Due.same("week(" + day + ")", x.week(day), week);
        held.ends("week(" + day + ")");
    }

    private static void week() {
        Due.sentence(12, "as weeks begin with Monday");
        week(Due.day(2024, 3, 3), 9, 2024);
        week(Due.day(2024, 3, 4), 10, 2024);
        Due.sentence(12, "and the first one of a year is that with its first Thursday");
        week(Due.day(2025, 12, 28), 52, 2025);
        week(Due.day(2025, 12, 29), 1, 2026);
        week(Due.day(2026, 1, 1), 1, 2026);
        week(Due.day(2026, 1, 4), 1, 2026);
        week(Due.day(2026, 1, 5), 2, 2026);
        week(Due.day(2021, 1, 1), 53, 2020);
        week(Due.day(2021, 1, 3), 53, 2020);
        week(Due.day(2021, 1, 4), 1, 2021);
        week(Due.day(2023, 1, 1), 52, 2022);
        Due.sentence(12, "(1 .. 53); the ROW: the year that it is of");
        week(0, 1, 1);
        week(6, 1, 1);
        week(7, 2, 1);
        week(LAST, 52, 9999);
        Due.sentence(12, "the week of a DAY: NONE, if there is none");
        DateSpans x = Held.filled();
        Held held = Held.of(x);
        Due.same("week(-1)", x.week(-1), -1);
        Due.same("week(last + 1)", x.week(LAST + 1), -1);
        held.ends("week of no day");
    }

    private static void weekOfYears() {
        Due.sentence(12, "the week of the days round each New Year");
        for (int year = 1; year <= 9999; year++) {
            DateSpans x = new DateSpans();
            for (int k = -4; k < 5; k++) {
                LocalDate date = LocalDate.of(year, 1, 1).plusDays(k);
                if (date.getYear() > 0 && date.getYear() < 10000) {
                    int day = (int) ChronoUnit.DAYS.between(LocalDate.of(1, 1, 1), date);
                    Due.same("week of " + date, x.week(day), date.get(IsoFields.WEEK_OF_WEEK_BASED_YEAR));
                    Due.same("its year", x.row(0), date.get(IsoFields.WEEK_BASED_YEAR));
                }
            }
        }
    }
}
