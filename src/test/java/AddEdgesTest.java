import java.time.LocalDate;
import java.time.YearMonth;

/** Spans added and put together, sentence by sentence: the laws of Terms 1, promises 13 to 18. */
public final class AddEdgesTest {
    private static final int LAST = 3652058;
    private static final int MOST = 1000000000;
    private static final int CLAMP = 0;
    private static final int OVER = 1;
    private static final int END = 2;
    private static final int STRICT = 3;

    private AddEdgesTest() {
    }

    public static void main(String[] args) {
        lawsOnEachDay();
        lawsByHand();
        noMonths();
        orders();
        failsAtMonths();
        failsAtDays();
        failsAtSeconds();
        failsFarBeyond();
        addHolds();
        steps();
        stepsShort();
        stepsFail();
        sum();
        turn();
        mult();
        even();
        Due.ends("AddEdgesTest");
    }

    private static DateSpans at(int day, int second, int months, int days, int seconds) {
        DateSpans x = Held.filled();
        x.sets(1, day, second);
        x.parts(2, months, days, seconds);
        return x;
    }

    private static String call(String name, int law, int order, int day, int second) {
        return name + " by " + law + ", " + order + " from " + day + ", " + second;
    }

    private static void leads(DateSpans x, int law, int order, int day, int second, int tooShort) {
        String call = call("add", law, order, x.momentIs(1, 0), x.momentIs(1, 1));
        Held held = Held.of(x).moment(3, day, second).row(second, tooShort);
        Due.same(call, x.add(1, 2, law, order, 3), day);
        held.still(call);
    }

    private static void fails(DateSpans x, int law, int order) {
        String call = call("add", law, order, x.momentIs(1, 0), x.momentIs(1, 1));
        Held held = Held.of(x);
        Due.same(call, x.add(1, 2, law, order, 3), -2);
        held.still(call);
    }

    // ---- laws

    /** What each law says of a date and months, told by its year, month and day of the month: -1 if it fails. */
    private static int told(LocalDate date, int months, int law) {
        YearMonth month = YearMonth.from(date).plusMonths(months);
        int length = month.lengthOfMonth();
        int day = date.getDayOfMonth();
        int lacking = Math.max(day - length, 0);
        boolean last = day == date.lengthOfMonth();
        int first = Due.day(month.getYear(), month.getMonthValue(), 1);
        if (law == STRICT && lacking > 0) {
            return -1;
        }
        if (law == OVER) {
            return first + day - 1;
        }
        return first + (law == END && last ? length : Math.min(day, length)) - 1;
    }

    private static void lawsOnEachDay() {
        Due.sentence(0, "LAWS: .. by 0 CLAMP .. 1 OVER .. 2 END .. 3 STRICT; SHORT: by how many days the month is too short");
        LocalDate date = LocalDate.of(2023, 1, 1);
        for (int k = 0; k < 800; k++) {
            if (date.getDayOfMonth() < 27 && date.getDayOfMonth() > 1) {
                date = date.plusDays(1);
                continue;
            }
            int day = (int) (date.toEpochDay() + 719162);
            for (int law = 0; law < 4; law++) {
                DateSpans x = new DateSpans();
                x.sets(1, day, 7);
                for (int months : new int[] {-13, -12, -11, -2, -1, 1, 2, 11, 12, 13, 24, 48}) {
                    x.parts(2, months, 0, 0);
                    int due = told(date, months, law);
                    String call = "add to " + date + " " + months + " months by " + law;
                    Due.same(call, x.add(1, 2, law, 0, 3), due < 0 ? -2 : due);
                    if (due >= 0) {
                        int length = YearMonth.from(date).plusMonths(months).lengthOfMonth();
                        Due.same(call + ": second", x.row(0), 7);
                        Due.same(call + ": SHORT", x.row(1), Math.max(date.getDayOfMonth() - length, 0));
                    }
                }
            }
            date = date.plusDays(1);
        }
    }

    private static void lawsByHand() {
        Due.sentence(0, "the day of the month stays, but where that month is too short");
        DateSpans x = at(Due.day(2024, 1, 29), 5, 1, 0, 0);
        for (int law = 0; law < 4; law++) {
            leads(x, law, 0, Due.day(2024, 2, 29), 5, 0);
        }
        Due.sentence(0, "by 0 CLAMP it is the month's last one");
        leads(at(Due.day(2023, 1, 29), 5, 1, 0, 0), CLAMP, 0, Due.day(2023, 2, 28), 5, 1);
        leads(at(Due.day(2023, 1, 31), 5, 1, 0, 0), CLAMP, 0, Due.day(2023, 2, 28), 5, 3);
        leads(at(Due.day(2023, 3, 31), 5, 1, 0, 0), CLAMP, 0, Due.day(2023, 4, 30), 5, 1);
        leads(at(Due.day(2023, 2, 28), 5, 1, 0, 0), CLAMP, 0, Due.day(2023, 3, 28), 5, 0);
        Due.sentence(0, "by 1 OVER as many days as it is too short come behind the month's last one");
        leads(at(Due.day(2023, 1, 29), 5, 1, 0, 0), OVER, 0, Due.day(2023, 3, 1), 5, 1);
        leads(at(Due.day(2023, 1, 31), 5, 1, 0, 0), OVER, 0, Due.day(2023, 3, 3), 5, 3);
        leads(at(Due.day(2023, 3, 31), 5, 1, 0, 0), OVER, 0, Due.day(2023, 5, 1), 5, 1);
        leads(at(Due.day(2023, 3, 31), 5, -1, 0, 0), OVER, 0, Due.day(2023, 3, 3), 5, 3);
        leads(at(Due.day(2024, 2, 29), 5, 12, 0, 0), OVER, 0, Due.day(2025, 3, 1), 5, 1);
        Due.sentence(0, "by 2 END .. a DATE that is the last one of its month leads to the last one of that month always");
        leads(at(Due.day(2023, 2, 28), 5, 1, 0, 0), END, 0, Due.day(2023, 3, 31), 5, 0);
        leads(at(Due.day(2024, 2, 28), 5, 1, 0, 0), END, 0, Due.day(2024, 3, 28), 5, 0);
        leads(at(Due.day(2024, 2, 29), 5, 1, 0, 0), END, 0, Due.day(2024, 3, 31), 5, 0);
        leads(at(Due.day(2023, 4, 30), 5, 1, 0, 0), END, 0, Due.day(2023, 5, 31), 5, 0);
        leads(at(Due.day(2023, 4, 29), 5, 1, 0, 0), END, 0, Due.day(2023, 5, 29), 5, 0);
        leads(at(Due.day(2023, 2, 28), 5, 12, 0, 0), END, 0, Due.day(2024, 2, 29), 5, 0);
        leads(at(Due.day(2023, 1, 31), 5, 1, 0, 0), END, 0, Due.day(2023, 2, 28), 5, 3);
        leads(at(Due.day(2023, 1, 30), 5, 1, 0, 0), END, 0, Due.day(2023, 2, 28), 5, 2);
        leads(at(Due.day(2023, 1, 28), 5, 1, 0, 0), END, 0, Due.day(2023, 2, 28), 5, 0);
        Due.sentence(0, "by 3 STRICT it fails");
        leads(at(Due.day(2023, 1, 28), 5, 1, 0, 0), STRICT, 0, Due.day(2023, 2, 28), 5, 0);
        fails(at(Due.day(2023, 1, 29), 5, 1, 0, 0), STRICT, 0);
        fails(at(Due.day(2023, 1, 31), 5, 3, 0, 0), STRICT, 0);
        leads(at(Due.day(2023, 1, 30), 5, 3, 0, 0), STRICT, 0, Due.day(2023, 4, 30), 5, 0);
    }

    private static void noMonths() {
        Due.sentence(0, "(No MONTHS: the DATE stays, by END, too.)");
        for (int law = 0; law < 4; law++) {
            for (int order = 0; order < 2; order++) {
                leads(at(Due.day(2023, 2, 28), 5, 0, 0, 0), law, order, Due.day(2023, 2, 28), 5, 0);
                leads(at(Due.day(2023, 4, 30), 5, 0, 0, 0), law, order, Due.day(2023, 4, 30), 5, 0);
                leads(at(Due.day(2023, 4, 29), 5, 0, 1, 0), law, order, Due.day(2023, 4, 30), 5, 0);
            }
        }
        Due.sentence(0, "SHORT .. (0: it is not): of an adding ahead of it nothing is left");
        DateSpans x = at(Due.day(2023, 1, 31), 5, 1, 0, 0);
        leads(x, CLAMP, 0, Due.day(2023, 2, 28), 5, 3);
        x.parts(2, 0, 0, 0);
        leads(x, CLAMP, 0, Due.day(2023, 1, 31), 5, 0);
    }

    // ---- orders

    private static void orders() {
        Due.sentence(0, "by ORDER 0: MONTHS to its DATE, then DAYS to the DAY, then SECONDS to the INSTANT");
        DateSpans x = at(Due.day(2023, 1, 30), 0, 1, 1, 0);
        leads(x, CLAMP, 0, Due.day(2023, 3, 1), 0, 2);
        x = at(Due.day(2023, 1, 31), 86399, 1, 0, 1);
        leads(x, CLAMP, 0, Due.day(2023, 3, 1), 0, 3);
        Due.sentence(0, "by ORDER 1: SECONDS, DAYS, MONTHS");
        x = at(Due.day(2023, 1, 30), 0, 1, 1, 0);
        leads(x, CLAMP, 1, Due.day(2023, 2, 28), 0, 3);
        x = at(Due.day(2023, 1, 31), 86399, 1, 0, 1);
        leads(x, CLAMP, 1, Due.day(2023, 3, 1), 0, 0);
        x = at(Due.day(2023, 2, 1), 0, 1, 0, -1);
        leads(x, CLAMP, 1, Due.day(2023, 2, 28), 86399, 3);
        leads(x, CLAMP, 0, Due.day(2023, 2, 28), 86399, 0);
        Due.sentence(0, "SECONDS to the INSTANT: over the ends of a day");
        leads(at(10, 0, 0, 0, 86399), CLAMP, 0, 10, 86399, 0);
        leads(at(10, 0, 0, 0, 86400), CLAMP, 0, 11, 0, 0);
        leads(at(10, 0, 0, 0, -1), CLAMP, 0, 9, 86399, 0);
        leads(at(10, 5, 0, 0, -86406), CLAMP, 0, 8, 86399, 0);
        leads(at(0, 0, 0, 0, MOST), CLAMP, 0, 11574, 6400, 0);
        leads(at(LAST, 86399, 0, 0, -MOST), CLAMP, 1, LAST - 11574, 79999, 0);
    }

    // ---- It fails, if a DAY comes that there is not, at any step.

    private static void failsAtMonths() {
        Due.sentence(0, "It fails, if a DAY comes that there is not: at MONTHS");
        leads(at(30, 0, 119987, 0, 0), CLAMP, 0, LAST, 0, 0);
        fails(at(30, 0, 119988, 0, 0), CLAMP, 0);
        leads(at(LAST, 0, -119987, 0, 0), CLAMP, 0, 30, 0, 0);
        fails(at(LAST, 0, -119988, 0, 0), CLAMP, 0);
        leads(at(31, 0, -1, 0, 0), CLAMP, 1, 0, 0, 0);
        fails(at(30, 0, -1, 0, 0), CLAMP, 1);
        leads(at(LAST - 31, 0, 1, 0, 0), CLAMP, 1, LAST - 1, 0, 0);
        fails(at(LAST - 30, 0, 1, 0, 0), CLAMP, 1);
        Due.sentence(0, "at any step: MONTHS first, though DAYS would lead back");
        fails(at(LAST, 0, 1, -40, 0), CLAMP, 0);
        leads(at(LAST, 0, 1, -40, 0), CLAMP, 1, Due.day(9999, 12, 21), 0, 0);
        fails(at(0, 0, -1, 40, 0), CLAMP, 0);
        leads(at(0, 0, -1, 40, 0), CLAMP, 1, Due.day(1, 1, 10), 0, 0);
    }

    private static void failsAtDays() {
        Due.sentence(0, "It fails, if a DAY comes that there is not: at DAYS");
        for (int order = 0; order < 2; order++) {
            leads(at(5, 9, 0, -5, 0), CLAMP, order, 0, 9, 0);
            fails(at(5, 9, 0, -6, 0), CLAMP, order);
            leads(at(LAST - 5, 9, 0, 5, 0), CLAMP, order, LAST, 9, 0);
            fails(at(LAST - 5, 9, 0, 6, 0), CLAMP, order);
            leads(at(0, 9, 0, LAST, 0), CLAMP, order, LAST, 9, 0);
            fails(at(0, 9, 0, LAST + 1, 0), CLAMP, order);
            leads(at(LAST, 9, 0, -LAST, 0), CLAMP, order, 0, 9, 0);
            fails(at(LAST, 9, 0, -LAST - 1, 0), CLAMP, order);
            fails(at(LAST, 9, 0, MOST, 0), CLAMP, order);
            fails(at(0, 9, 0, -MOST, 0), CLAMP, order);
        }
        Due.sentence(0, "at any step: DAYS, though SECONDS or MONTHS would lead back");
        fails(at(0, 0, 0, -1, 86400), CLAMP, 0);
        leads(at(0, 0, 0, -1, 86400), CLAMP, 1, 0, 0, 0);
        fails(at(LAST, 0, 0, 1, -86400), CLAMP, 0);
        leads(at(LAST, 0, 0, 1, -86400), CLAMP, 1, LAST, 0, 0);
        fails(at(LAST - 10, 0, -1, 20, 0), CLAMP, 1);
        leads(at(LAST - 10, 0, -1, 20, 0), CLAMP, 0, Due.day(9999, 12, 11), 0, 0);
        fails(at(10, 0, 1, -20, 0), CLAMP, 1);
        leads(at(10, 0, 1, -20, 0), CLAMP, 0, Due.day(1, 1, 22), 0, 0);
    }

    private static void failsAtSeconds() {
        Due.sentence(0, "It fails, if a DAY comes that there is not: at SECONDS");
        for (int order = 0; order < 2; order++) {
            leads(at(0, 5, 0, 0, -5), CLAMP, order, 0, 0, 0);
            fails(at(0, 5, 0, 0, -6), CLAMP, order);
            leads(at(LAST, 86000, 0, 0, 399), CLAMP, order, LAST, 86399, 0);
            fails(at(LAST, 86000, 0, 0, 400), CLAMP, order);
            fails(at(LAST, 0, 0, 0, MOST), CLAMP, order);
            fails(at(0, 0, 0, 0, -MOST), CLAMP, order);
        }
        Due.sentence(0, "at any step: SECONDS first, though DAYS or MONTHS would lead back");
        fails(at(0, 0, 0, 1, -86400), CLAMP, 1);
        leads(at(0, 0, 0, 1, -86400), CLAMP, 0, 0, 0, 0);
        fails(at(LAST, 86399, 0, -1, 1), CLAMP, 1);
        leads(at(LAST, 86399, 0, -1, 1), CLAMP, 0, LAST, 0, 0);
        fails(at(LAST, 86399, -1, 0, 1), CLAMP, 1);
        leads(at(LAST, 86399, -1, 0, 1), CLAMP, 0, Due.day(9999, 12, 1), 0, 1);
        fails(at(0, 0, 1, 0, -1), CLAMP, 1);
        leads(at(0, 0, 1, 0, -1), CLAMP, 0, 30, 86399, 0);
    }

    private static void failsFarBeyond() {
        Due.sentence(0, "a DAY that there is not: years far beyond what there is");
        for (int k = 0; k < 100; k++) {
            DateSpans x = new DateSpans();
            x.sets(1, 1234567, 0);
            for (int j = 0; j < 80; j++) {
                int months = 119988 + (int) ((MOST - 119988L) * (80 * k + j) / 8000);
                x.parts(2, months, 0, 0);
                Due.same("add " + months + " months", x.add(1, 2, CLAMP, 0, 3), -2);
                x.parts(2, -months, 0, 0);
                Due.same("add " + -months + " months", x.add(1, 2, OVER, 1, 3), -2);
            }
        }
        for (int law = 0; law < 4; law++) {
            fails(at(0, 0, MOST, -MOST, 0), law, 0);
            fails(at(LAST, 0, -MOST, MOST, 0), law, 0);
            fails(at(0, 0, MOST, 0, MOST), law, 1);
        }
    }

    private static void addHolds() {
        Due.sentence(13, "that comes to SLOT to: its DAY; the ROW: its SECOND, SHORT");
        for (int to = 0; to < 8; to++) {
            DateSpans x = at(Due.day(2023, 1, 31), 5, 1, 0, 1);
            Held held = Held.of(x).moment(to, Due.day(2023, 2, 28), 6).row(6, 3);
            Due.same("add to " + to, x.add(1, 2, CLAMP, 0, to), Due.day(2023, 2, 28));
            held.ends("add to " + to);
        }
        Due.sentence(13, "-2");
        for (int to : new int[] {1, 3}) {
            DateSpans x = at(LAST, 5, 0, 1, 0);
            Held held = Held.of(x);
            Due.same("add to " + to, x.add(1, 2, CLAMP, 0, to), -2);
            held.ends("add that fails");
        }
    }

    // ---- promise 14

    private static void stepped(DateSpans x, int law, int order, int n, int day, int second, int tooShort) {
        Held held = Held.of(x).moment(6, day, second).row(second, tooShort);
        Due.same("steps by " + law + ", " + order + ", n " + n, x.steps(1, 2, law, order, n, 6), day);
        held.ends("steps n " + n);
    }

    private static void noSteps(DateSpans x, int law, int n, int due) {
        Held held = Held.of(x);
        Due.same("steps by " + law + ", n " + n, x.steps(1, 2, law, 0, n, 6), due);
        held.ends("steps n " + n);
    }

    private static void steps() {
        Due.sentence(14, "The same n times (0 .. 10000), one behind another");
        stepped(at(5, 6, 1, 1, 1), CLAMP, 0, 0, 5, 6, 0);
        stepped(at(5, 6, 0, 1, 1), CLAMP, 0, 1, 6, 7, 0);
        stepped(at(5, 6, 0, 1, 1), CLAMP, 0, 10000, 10005, 10006, 0);
        stepped(at(10005, 10006, 0, -1, -1), CLAMP, 0, 10000, 5, 6, 0);
        Due.sentence(14, "NONE: another n, too");
        noSteps(at(5, 6, 0, 1, 1), CLAMP, -1, -1);
        noSteps(at(5, 6, 0, 1, 1), CLAMP, 10001, -1);
        Due.sentence(14, "one behind another, by LAW, ORDER");
        stepped(at(Due.day(2023, 1, 31), 0, 1, 0, 0), CLAMP, 0, 2, Due.day(2023, 3, 28), 0, 1);
        stepped(at(Due.day(2023, 1, 31), 0, 1, 0, 0), OVER, 0, 2, Due.day(2023, 4, 3), 0, 1);
        stepped(at(Due.day(2023, 1, 31), 0, 1, 0, 0), END, 0, 2, Due.day(2023, 3, 31), 0, 1);
        stepped(at(Due.day(2023, 1, 30), 0, 1, 1, 0), CLAMP, 0, 2, Due.day(2023, 4, 2), 0, 1);
        stepped(at(Due.day(2023, 1, 30), 0, 1, 1, 0), CLAMP, 1, 2, Due.day(2023, 4, 1), 0, 1);
    }

    private static void stepsShort() {
        Due.sentence(14, "the ROW: the SECOND, how often it was SHORT");
        stepped(at(Due.day(2023, 1, 31), 9, 1, 0, 0), END, 0, 1, Due.day(2023, 2, 28), 9, 1);
        stepped(at(Due.day(2023, 1, 31), 9, 1, 0, 0), END, 0, 3, Due.day(2023, 4, 30), 9, 2);
        stepped(at(Due.day(2023, 1, 31), 9, 1, 0, 0), END, 0, 12, Due.day(2024, 1, 31), 9, 5);
        stepped(at(Due.day(2023, 1, 31), 9, 1, 0, 0), CLAMP, 0, 12, Due.day(2024, 1, 28), 9, 1);
        stepped(at(Due.day(2023, 1, 28), 9, 1, 0, 0), CLAMP, 0, 12, Due.day(2024, 1, 28), 9, 0);
        stepped(at(Due.day(2023, 3, 31), 9, 2, 0, 0), STRICT, 0, 2, Due.day(2023, 7, 31), 9, 0);
    }

    private static void stepsFail() {
        Due.sentence(14, "-2");
        stepped(at(LAST - 3, 9, 0, 1, 0), CLAMP, 0, 3, LAST, 9, 0);
        noSteps(at(LAST - 3, 9, 0, 1, 0), CLAMP, 4, -2);
        noSteps(at(LAST - 3, 9, 0, 1, 0), CLAMP, 10000, -2);
        noSteps(at(Due.day(2023, 1, 31), 9, 1, 0, 0), STRICT, 2, -2);
        stepped(at(LAST, 9, 0, 1, 0), CLAMP, 0, 0, LAST, 9, 0);
        noSteps(at(LAST, 9, 0, 1, 0), CLAMP, 1, -2);
    }

    // ---- promises 15 to 18

    private static DateSpans two(int[] a, int[] b) {
        DateSpans x = Held.filled();
        x.parts(1, a[0], a[1], a[2]);
        x.parts(2, b[0], b[1], b[2]);
        return x;
    }

    private static int[] of(int... numbers) {
        return numbers;
    }

    private static void isSpan(String call, DateSpans x, Held held, int answer, int[] due) {
        Due.same(call, answer, due[0]);
        held.span(5, due[0], due[1], due[2]).row(due[0], due[1], due[2]).ends(call);
    }

    private static void isBeyond(String call, Held held, int answer) {
        Due.same(call, answer, -9);
        held.ends(call);
    }

    private static int[] alone(int k, int number) {
        int[] all = new int[3];
        all[k] = number;
        return all;
    }

    private static void sum() {
        Due.sentence(15, "SPANS a and b together, part by part, come to SLOT to: MONTHS; the ROW: all three");
        DateSpans x = two(of(1, -2, 3), of(10, -20, 100000));
        Held held = Held.of(x);
        isSpan("sum", x, held, x.sum(1, 2, 5), of(11, -22, 100003));
        x = two(of(-4, 7, 3), of(3, 0, 0));
        held = Held.of(x);
        isSpan("sum of -1 month", x, held, x.sum(1, 2, 5), of(-1, 7, 3));
        Due.sentence(15, "-9");
        for (int k = 0; k < 3; k++) {
            for (int sign = -1; sign < 2; sign += 2) {
                x = two(alone(k, sign * (MOST - 7)), alone(k, sign * 7));
                held = Held.of(x);
                isSpan("sum to the bound", x, held, x.sum(1, 2, 5), alone(k, sign * MOST));
                x = two(alone(k, sign * (MOST - 7)), alone(k, sign * 8));
                held = Held.of(x);
                isBeyond("sum beyond", held, x.sum(1, 2, 5));
                x = two(alone(k, sign * MOST), alone(k, sign * MOST));
                held = Held.of(x);
                isBeyond("sum far beyond", held, x.sum(2, 1, 5));
            }
        }
        x = two(of(1, 2, 3), of(4, 5, 6));
        x.sum(1, 2, 1);
        Due.span(x, 1, 5, 7, 9);
        x.sum(1, 1, 1);
        Due.span(x, 1, 10, 14, 18);
    }

    private static void turn() {
        Due.sentence(16, "SPAN a TURNED comes to SLOT to: MONTHS; the ROW likewise");
        int[][] all = {{1, -2, 3}, {-1, 2, -3}, {0, 0, 0}, {MOST, -MOST, MOST}, {-MOST, MOST, -MOST}, {9, 0, 0}, {2, 1, 1}};
        for (int[] a : all) {
            DateSpans x = two(a, of(7, 7, 7));
            Held held = Held.of(x);
            isSpan("turn", x, held, x.turn(1, 5), of(-a[0], -a[1], -a[2]));
        }
        DateSpans x = two(of(1, 2, 3), of(4, 5, 6));
        x.turn(1, 1);
        Due.span(x, 1, -1, -2, -3);
    }

    private static void mult() {
        Due.sentence(17, "SPAN a times k comes to SLOT to: MONTHS; the ROW likewise");
        for (int k : new int[] {0, 1, -1, 2, -3, 100}) {
            DateSpans x = two(of(3, -5, 7), of(7, 7, 7));
            Held held = Held.of(x);
            isSpan("mult by " + k, x, held, x.mult(1, k, 5), of(3 * k, -5 * k, 7 * k));
        }
        Due.sentence(17, "-9");
        for (int k = 0; k < 3; k++) {
            for (int sign = -1; sign < 2; sign += 2) {
                DateSpans x = two(alone(k, sign * 500000000), of(7, 7, 7));
                Held held = Held.of(x);
                isSpan("mult to the bound", x, held, x.mult(1, 2, 5), alone(k, sign * MOST));
                x = two(alone(k, sign), of(7, 7, 7));
                held = Held.of(x);
                isSpan("mult to the other bound", x, held, x.mult(1, -MOST, 5), alone(k, -sign * MOST));
                x = two(alone(k, sign * 500000001), of(7, 7, 7));
                held = Held.of(x);
                isBeyond("mult beyond", held, x.mult(1, 2, 5));
                isBeyondFar(alone(k, sign));
            }
        }
    }

    private static void isBeyondFar(int[] span) {
        for (int k : new int[] {MOST + 1, -MOST - 1, Integer.MAX_VALUE, Integer.MIN_VALUE}) {
            DateSpans x = two(span, of(7, 7, 7));
            Held held = Held.of(x);
            isBeyond("mult by " + k, held, x.mult(1, k, 5));
        }
        // products that would come within bounds again, if they were cut to 32 binary digits
        for (int k : new int[] {1 << 30, 1 << 31, 3 << 30}) {
            DateSpans x = two(of(4 * span[0], 4 * span[1], 4 * span[2]), of(7, 7, 7));
            Held held = Held.of(x);
            isBeyond("mult by " + k, held, x.mult(1, k, 5));
        }
    }

    private static void even() {
        Due.sentence(18, "as many whole days of 86400 seconds as SECONDS have, towards 0, become DAYS");
        int[][] all = {{0, 0, 0}, {86399, 0, 86399}, {86400, 1, 0}, {86401, 1, 1}, {172799, 1, 86399}, {172800, 2, 0},
            {-86399, 0, -86399}, {-86400, -1, 0}, {-86401, -1, -1}, {-172800, -2, 0}, {MOST, 11574, 6400},
            {-MOST, -11574, -6400}};
        for (int[] a : all) {
            for (int days : new int[] {0, 5, -5}) {
                DateSpans x = two(of(-3, days, a[0]), of(7, 7, 7));
                Held held = Held.of(x);
                isSpan("even of " + a[0], x, held, x.even(1, 5), of(-3, days + a[1], a[2]));
            }
        }
        Due.sentence(18, "-9");
        for (int sign = -1; sign < 2; sign += 2) {
            DateSpans x = two(of(1, sign * (MOST - 1), sign * 86400), of(7, 7, 7));
            Held held = Held.of(x);
            isSpan("even to the bound", x, held, x.even(1, 5), of(1, sign * MOST, 0));
            x = two(of(1, sign * MOST, sign * 86399), of(7, 7, 7));
            held = Held.of(x);
            isSpan("even at the bound", x, held, x.even(1, 5), of(1, sign * MOST, sign * 86399));
            x = two(of(1, sign * MOST, sign * 86400), of(7, 7, 7));
            held = Held.of(x);
            isBeyond("even beyond", held, x.even(1, 5));
            x = two(of(1, sign * MOST, -sign * 86400), of(7, 7, 7));
            held = Held.of(x);
            isSpan("even back", x, held, x.even(1, 5), of(1, sign * (MOST - 1), 0));
        }
    }
}
