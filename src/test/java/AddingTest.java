/** Promises 13 to 21: spans added, summed and evened out; differences. */
public final class AddingTest {
    private static final int LAST_DAY = 3652058;
    private static final int JAN_31 = 738915;
    private static final int LEAP_DAY = 738944;
    private static final int MARCH_31 = 738975;

    private AddingTest() {
    }

    public static void main(String[] args) {
        addByLaws();
        addByOrders();
        addRefused();
        steps();
        sum();
        turn();
        mult();
        even();
        between();
        betweenUnits();
        betweenRefused();
        least();
        age();
        Due.ends("AddingTest");
    }

    private static DateSpans at(int day, int second, int months, int days, int seconds) {
        DateSpans x = new DateSpans();
        x.sets(1, day, second);
        x.parts(2, months, days, seconds);
        return x;
    }

    private static void leads(DateSpans x, int law, int order, int day, int second, int tooShort) {
        Due.same("add by " + law + ", " + order, x.add(1, 2, law, order, 3), day);
        Due.moment(x, 3, day, second);
        Due.row(x, second, tooShort);
    }

    private static void fails(DateSpans x, int law, int order) {
        x.sets(3, 77, 77);
        x.week(0);
        Due.same("add by " + law + ", " + order, x.add(1, 2, law, order, 3), -2);
        Due.moment(x, 3, 77, 77);
        Due.row(x, 1);
    }

    private static void addByLaws() {
        Due.promise(13, "add");
        DateSpans x = at(JAN_31, 5, 1, 0, 0);
        leads(x, 0, 0, LEAP_DAY, 5, 2);
        leads(x, 1, 0, LEAP_DAY + 2, 5, 2);
        leads(x, 2, 0, LEAP_DAY, 5, 2);
        fails(x, 3, 0);
        fails(x, 3, 1);
        x = at(738550, 0, 1, 0, 0);
        leads(x, 0, 1, 738578, 0, 3);
        leads(x, 1, 1, 738581, 0, 3);
        leads(x, 2, 1, 738578, 0, 3);
        x = at(LEAP_DAY, 0, 1, 0, 0);
        leads(x, 0, 0, 738973, 0, 0);
        leads(x, 1, 0, 738973, 0, 0);
        leads(x, 2, 0, MARCH_31, 0, 0);
        leads(x, 3, 0, 738973, 0, 0);
        x = at(LEAP_DAY, 0, 12, 0, 0);
        leads(x, 0, 0, 739309, 0, 1);
        leads(x, 1, 0, 739310, 0, 1);
        leads(x, 2, 0, 739309, 0, 1);
        fails(x, 3, 0);
        x = at(LEAP_DAY, 0, 48, 0, 0);
        leads(x, 3, 0, 740405, 0, 0);
        // the 28th is the last one of its month in a year that is not leap alone
        x = at(738943, 0, 1, 0, 0);
        leads(x, 2, 0, 738972, 0, 0);
        x = at(738578, 0, 1, 0, 0);
        leads(x, 2, 0, 738609, 0, 0);
        leads(x, 0, 0, 738606, 0, 0);
        x = at(739005, 0, -1, 0, 0);
        leads(x, 2, 0, MARCH_31, 0, 0);
        leads(x, 0, 0, 738974, 0, 0);
        x = at(LEAP_DAY, 0, -12, 0, 0);
        leads(x, 0, 0, 738578, 0, 1);
        // a 30th that is not its month's last one, led to February
        x = at(738914, 0, 1, 0, 0);
        leads(x, 0, 0, LEAP_DAY, 0, 1);
        leads(x, 1, 0, LEAP_DAY + 1, 0, 1);
        leads(x, 2, 0, LEAP_DAY, 0, 1);
        // no months: the date stays, by END, too
        x = at(LEAP_DAY, 9, 0, 0, 0);
        for (int law = 0; law < 4; law++) {
            leads(x, law, 0, LEAP_DAY, 9, 0);
        }
        // how short a month was before is none of what is added next
        x = at(JAN_31, 0, 1, 0, 0);
        leads(x, 0, 0, LEAP_DAY, 0, 2);
        x.parts(2, 0, 1, 0);
        leads(x, 0, 0, JAN_31 + 1, 0, 0);
        x = at(738578, 0, 0, 1, 0);
        leads(x, 2, 0, 738579, 0, 0);
        leads(x, 2, 1, 738579, 0, 0);
    }

    private static void addByOrders() {
        Due.promise(13, "add, orders and ends");
        DateSpans x = at(738914, 0, 1, 1, 0);
        leads(x, 0, 0, 738945, 0, 1);
        leads(x, 0, 1, LEAP_DAY, 0, 2);
        // the second leads to February, of which the month is not short
        x = at(JAN_31, 86399, 1, 0, 1);
        leads(x, 0, 0, 738945, 0, 2);
        leads(x, 0, 1, 738945, 0, 0);
        x = at(10, 86399, 0, 0, 2);
        leads(x, 0, 0, 11, 1, 0);
        x = at(10, 1, 0, -1, -2);
        leads(x, 0, 0, 8, 86399, 0);
        leads(x, 0, 1, 8, 86399, 0);
        x = at(0, 1, 0, 0, -1);
        leads(x, 0, 0, 0, 0, 0);
        x = at(0, 0, 0, 0, -1);
        fails(x, 0, 0);
        fails(x, 0, 1);
        x = at(LAST_DAY, 86398, 0, 0, 1);
        leads(x, 0, 0, LAST_DAY, 86399, 0);
        x = at(LAST_DAY, 86399, 0, 0, 1);
        fails(x, 0, 0);
        fails(x, 0, 1);
        // a day that there is not comes at one step, by one order
        x = at(LAST_DAY, 0, 1, -31, 0);
        fails(x, 0, 0);
        leads(x, 0, 1, LAST_DAY - 1, 0, 0);
        x = at(0, 0, 0, -1, 86400);
        fails(x, 0, 0);
        leads(x, 0, 1, 0, 0, 0);
        x = at(0, 0, 0, 1, -86400);
        leads(x, 0, 0, 0, 0, 0);
        fails(x, 0, 1);
        x = at(LAST_DAY, 0, 0, 1, -86400);
        fails(x, 0, 0);
        leads(x, 0, 1, LAST_DAY, 0, 0);
        x = at(30, 0, -1, 31, 0);
        fails(x, 1, 0);
        leads(x, 1, 1, 33, 0, 0);
        x = at(LAST_DAY, 0, -119987, 0, 0);
        leads(x, 3, 0, 30, 0, 0);
        x = at(LAST_DAY, 0, -119988, 0, 0);
        fails(x, 0, 0);
        x = at(30, 0, 119987, 0, 0);
        leads(x, 2, 0, LAST_DAY, 0, 0);
        x = at(30, 0, 119988, 0, 0);
        fails(x, 2, 0);
        int most = 1000000000;
        fails(at(0, 0, most, 0, 0), 0, 0);
        fails(at(0, 0, 0, most, 0), 0, 1);
        fails(at(LAST_DAY, 0, -most, 0, 0), 1, 1);
        fails(at(LAST_DAY, 0, 0, -most, 0), 1, 0);
        leads(at(0, 0, 0, 0, most), 0, 0, 11574, 6400, 0);
    }

    private static void addRefused() {
        Due.promise(13, "add, refused");
        DateSpans x = at(LAST_DAY, 86399, 1, 1, 1);
        x.week(0);
        int[][] wrong = {{8, 2, 0, 0, 3}, {-1, 2, 0, 0, 3}, {1, 8, 0, 0, 3}, {1, -1, 0, 0, 3},
            {1, 2, 4, 0, 3}, {1, 2, -1, 0, 3}, {1, 2, 0, 2, 3}, {1, 2, 0, -1, 3}, {1, 2, 0, 0, 8},
            {1, 2, 0, 0, -1}};
        for (int[] w : wrong) {
            Due.same("add", x.add(w[0], w[1], w[2], w[3], w[4]), -1);
            Due.same("steps", x.steps(w[0], w[1], w[2], w[3], 1, w[4]), -1);
        }
        Due.same("count(0)", x.count(0), 2);
        Due.row(x, 1);
        // the slot that it comes from is one it can come to
        x = at(JAN_31, 5, 1, 0, 1);
        Due.same("add", x.add(1, 2, 0, 0, 1), LEAP_DAY);
        Due.moment(x, 1, LEAP_DAY, 6);
        Due.same("add", x.add(1, 2, 0, 0, 1), 738973);
        Due.moment(x, 1, 738973, 7);
    }

    private static void stepsLead(int law, int order, int n, int day, int second, int tooShort) {
        DateSpans x = at(JAN_31, 7, 1, 0, 0);
        Due.same("steps by " + law, x.steps(1, 2, law, order, n, 6), day);
        Due.moment(x, 6, day, second);
        Due.row(x, second, tooShort);
        Due.moment(x, 1, JAN_31, 7);
    }

    private static void steps() {
        Due.promise(14, "steps");
        stepsLead(0, 0, 12, 739279, 7, 1);
        stepsLead(1, 0, 12, 739283, 7, 1);
        stepsLead(2, 0, 12, 739281, 7, 5);
        stepsLead(2, 1, 2, MARCH_31, 7, 1);
        stepsLead(3, 0, 0, JAN_31, 7, 0);
        DateSpans x = at(738914, 0, 1, 1, 0);
        Due.same("steps", x.steps(1, 2, 0, 1, 2, 1), 738976);
        Due.row(x, 0, 1);
        x = at(738914, 0, 1, 1, 0);
        Due.same("steps", x.steps(1, 2, 0, 0, 2, 1), 738977);
        Due.row(x, 0, 1);
        x = at(5, 1, 0, 1, 1);
        Due.same("steps", x.steps(1, 2, 0, 0, 10000, 4), 10005);
        Due.row(x, 10001, 0);
        Due.same("another n", x.steps(1, 2, 0, 0, 10001, 4), -1);
        Due.same("another n", x.steps(1, 2, 0, 0, -1, 4), -1);
        x.parts(2, 12, 0, 0);
        Due.same("steps to no year", x.steps(1, 2, 0, 0, 9999, 4), -2);
        Due.moment(x, 4, 10005, 10001);
        Due.row(x, 10001, 0);
        Due.same("steps", x.steps(1, 2, 0, 0, 9998, 4), 3651699);
        // one fails, a later one would not
        x = at(JAN_31, 0, 1, 0, 0);
        Due.same("steps", x.steps(1, 2, 3, 0, 2, 4), -2);
    }

    private static void spanOf(DateSpans x, int got, int months, int days, int seconds) {
        Due.same("months", got, months);
        Due.span(x, 7, months, days, seconds);
        Due.row(x, months, days, seconds);
    }

    private static void beyond(DateSpans x, int got) {
        Due.same("beyond bounds", got, -9);
        Due.span(x, 7, 1, 2, 3);
        Due.row(x, 1);
    }

    private static DateSpans two(int months, int days, int seconds, int more, int moreDays, int moreSeconds) {
        DateSpans x = new DateSpans();
        x.parts(0, months, days, seconds);
        x.parts(1, more, moreDays, moreSeconds);
        x.parts(7, 1, 2, 3);
        x.week(0);
        return x;
    }

    private static void sum() {
        Due.promise(15, "sum");
        int most = 1000000000;
        DateSpans x = two(1, 2, 3, 10, -20, 100000);
        spanOf(x, x.sum(0, 1, 7), 11, -18, 100003);
        spanOf(x, x.sum(7, 7, 7), 22, -36, 200006);
        Due.span(x, 0, 1, 2, 3);
        x = two(most, -most, most, 0, 0, 0);
        spanOf(x, x.sum(0, 1, 7), most, -most, most);
        x = two(-1, 0, 0, -8, 0, 0);
        spanOf(x, x.sum(0, 1, 7), -9, 0, 0);
        x = two(most, 0, 0, 1, 0, 0);
        beyond(x, x.sum(0, 1, 7));
        x = two(0, -most, 0, 0, -1, 0);
        beyond(x, x.sum(0, 1, 7));
        x = two(0, 0, most, 0, 0, 1);
        beyond(x, x.sum(1, 0, 7));
        beyond(x, x.sum(0, 0, 7));
        Due.same("no slot", x.sum(8, 0, 7), -1);
        Due.same("no slot", x.sum(0, -1, 7), -1);
        Due.same("no slot comes ahead of -9", x.sum(0, 0, 8), -1);
        beyond(x, x.sum(0, 0, 7));
    }

    private static void turn() {
        Due.promise(16, "turn");
        DateSpans x = two(1, -2, 3, 1000000000, -1000000000, 0);
        spanOf(x, x.turn(0, 7), -1, 2, -3);
        spanOf(x, x.turn(1, 7), -1000000000, 1000000000, 0);
        spanOf(x, x.turn(7, 7), 1000000000, -1000000000, 0);
        Due.span(x, 0, 1, -2, 3);
        Due.same("no slot", x.turn(8, 7), -1);
        Due.same("no slot", x.turn(-1, 7), -1);
        Due.same("no slot", x.turn(0, 8), -1);
        Due.same("no slot", x.turn(0, -1), -1);
        Due.row(x, 1000000000, -1000000000, 0);
    }

    private static void mult() {
        Due.promise(17, "mult");
        DateSpans x = two(1, -2, 3, 0, 0, 500000001);
        spanOf(x, x.mult(0, 5, 7), 5, -10, 15);
        spanOf(x, x.mult(0, -3, 7), -3, 6, -9);
        spanOf(x, x.mult(0, 0, 7), 0, 0, 0);
        spanOf(x, x.mult(0, 333333333, 7), 333333333, -666666666, 999999999);
        x = two(1, -2, 3, 0, 500000001, 0);
        beyond(x, x.mult(0, 333333334, 7));
        beyond(x, x.mult(1, 2, 7));
        beyond(x, x.mult(1, -2, 7));
        beyond(x, x.mult(0, Integer.MAX_VALUE, 7));
        beyond(x, x.mult(0, Integer.MIN_VALUE, 7));
        beyond(x, x.mult(1, 1 << 30, 7));
        Due.same("no slot", x.mult(8, 2, 7), -1);
        Due.same("no slot", x.mult(-1, 2, 7), -1);
        Due.same("no slot comes ahead of -9", x.mult(1, 2, 8), -1);
        Due.same("no slot", x.mult(1, 2, -1), -1);
        x = two(0, 0, 0, 0, 0, 0);
        spanOf(x, x.mult(0, Integer.MIN_VALUE, 7), 0, 0, 0);
    }

    private static void even() {
        Due.promise(18, "even");
        DateSpans x = two(4, 1, 200000, -4, 1, -90000);
        spanOf(x, x.even(0, 7), 4, 3, 27200);
        spanOf(x, x.even(1, 7), -4, 0, -3600);
        x = two(0, 5, 86400, 0, 5, -86400);
        spanOf(x, x.even(0, 7), 0, 6, 0);
        spanOf(x, x.even(1, 7), 0, 4, 0);
        x = two(0, 5, 86399, 0, -5, -86399);
        spanOf(x, x.even(0, 7), 0, 5, 86399);
        spanOf(x, x.even(1, 7), 0, -5, -86399);
        x = two(0, 1000000000, 86399, 0, -1000000000, 86400);
        spanOf(x, x.even(0, 7), 0, 1000000000, 86399);
        spanOf(x, x.even(1, 7), 0, -999999999, 0);
        spanOf(x, x.even(7, 7), 0, -999999999, 0);
        x = two(0, 1000000000, 86400, 0, -1000000000, -86400);
        beyond(x, x.even(0, 7));
        beyond(x, x.even(1, 7));
        Due.same("no slot", x.even(8, 7), -1);
        Due.same("no slot", x.even(-1, 7), -1);
        Due.same("no slot comes ahead of -9", x.even(0, 8), -1);
        Due.row(x, 1);
    }

    private static DateSpans from(int day, int second, int toDay, int toSecond) {
        DateSpans x = new DateSpans();
        x.sets(4, day, second);
        x.sets(5, toDay, toSecond);
        return x;
    }

    private static void tells(DateSpans x, int law, int units, int months, int days, int seconds, int returns) {
        String call = "between by " + law + ", " + units;
        Due.same(call, x.between(4, 5, law, units, 6), months);
        Due.span(x, 6, months, days, seconds);
        Due.row(x, months, days, seconds, returns);
    }

    private static void between() {
        Due.promise(19, "between");
        DateSpans x = from(JAN_31, 0, 738946, 0);
        tells(x, 0, 7, 1, 2, 0, 1);
        tells(x, 1, 7, 1, 0, 0, 0);
        tells(x, 2, 7, 1, 2, 0, 1);
        tells(x, 3, 7, 0, 31, 0, 1);
        x = from(738946, 0, JAN_31, 0);
        tells(x, 0, 7, -1, -2, 0, 1);
        // by OVER a month back can come into the month that it was
        x = from(MARCH_31, 0, 738945, 0);
        tells(x, 1, 7, -1, -1, 0, 0);
        tells(x, 0, 7, 0, -30, 0, 1);
        tells(x, 3, 7, 0, -30, 0, 1);
        x = from(MARCH_31, 0, 738947, 0);
        tells(x, 1, 7, 0, -28, 0, 1);
        // by STRICT a month that fails is passed
        x = from(JAN_31, 0, 739005, 0);
        tells(x, 3, 7, 2, 30, 0, 0);
        tells(x, 0, 7, 3, 0, 0, 0);
        tells(x, 2, 7, 3, 0, 0, 1);
        // a last day, by END and by CLAMP
        x = from(LEAP_DAY, 0, MARCH_31, 0);
        tells(x, 2, 7, 1, 0, 0, 1);
        tells(x, 0, 7, 1, 2, 0, 0);
        // a second decides
        x = from(LEAP_DAY, 45005, 738973, 45004);
        tells(x, 0, 7, 0, 28, 86399, 1);
        x = from(LEAP_DAY, 45005, 738973, 45005);
        tells(x, 0, 7, 1, 0, 0, 1);
        x = from(LEAP_DAY, 45005, JAN_31, 0);
        tells(x, 0, 7, 0, -29, -45005, 1);
        x = from(LEAP_DAY, 5, LEAP_DAY, 5);
        tells(x, 0, 7, 0, 0, 0, 1);
        x = from(0, 0, LAST_DAY, 86399);
        tells(x, 0, 7, 119987, 30, 86399, 1);
        x = from(LAST_DAY, 86399, 0, 0);
        tells(x, 0, 7, -119987, -30, -86399, 1);
        x = from(58, 0, 36, 0);
        tells(x, 0, 7, 0, -22, 0, 1);
    }

    private static void betweenUnits() {
        Due.promise(19, "between, units");
        DateSpans x = from(738550, 0, 738946, 1);
        tells(x, 0, 1, 12, 0, 31 * 86400 + 1, 0);
        tells(x, 0, 2, 13, 0, 2 * 86400 + 1, 1);
        tells(x, 0, 3, 13, 0, 2 * 86400 + 1, 1);
        tells(x, 0, 4, 0, 396, 1, 1);
        tells(x, 0, 5, 12, 31, 1, 0);
        tells(x, 0, 6, 13, 2, 1, 1);
        tells(x, 0, 7, 13, 2, 1, 1);
        x = from(738946, 1, 738550, 0);
        tells(x, 0, 1, -12, 0, -30 * 86400 - 1, 0);
        tells(x, 0, 5, -12, -30, -1, 0);
        // years alone, from a 29th of February, by STRICT: past 1900 none for eight years
        x = from(692193, 0, 695113, 0);
        tells(x, 3, 1, 0, 0, 252288000, 1);
        x = from(692193, 0, 695114, 0);
        tells(x, 3, 1, 96, 0, 0, 1);
        tells(x, 3, 5, 96, 0, 0, 1);
        x = from(JAN_31, 0, 738946, 0);
        tells(x, 0, 1, 0, 0, 2678400, 1);
    }

    private static void betweenRefused() {
        Due.promise(19, "between, refused");
        DateSpans x = from(JAN_31, 0, MARCH_31, 0);
        x.week(0);
        int[][] wrong = {{8, 5, 0, 7, 6}, {-1, 5, 0, 7, 6}, {4, 8, 0, 7, 6}, {4, -1, 0, 7, 6}, {4, 5, 4, 7, 6},
            {4, 5, -1, 7, 6}, {4, 5, 0, 0, 6}, {4, 5, 0, 8, 6}, {4, 5, 0, -1, 6}, {4, 5, 0, 7, 8}, {4, 5, 0, 7, -1}};
        for (int[] w : wrong) {
            Due.same("between", x.between(w[0], w[1], w[2], w[3], w[4]), -1);
        }
        Due.same("count(1)", x.count(1), 0);
        Due.row(x, 1);
    }

    private static void phrase(DateSpans x, int law, int size, int months, int days) {
        Due.same("least by " + law, x.least(4, 5, law), size);
        Due.row(x, months, days);
        Due.same("count(1)", x.count(1), 0);
    }

    private static void least() {
        Due.promise(20, "least");
        DateSpans x = from(JAN_31, 0, 738946, 0);
        phrase(x, 0, 3, 1, 2);
        phrase(x, 1, 1, 1, 0);
        x = from(738946, 0, JAN_31, 0);
        phrase(x, 0, 3, -1, -2);
        // of like sizes the fewest months: 3 weeks and 4 days, or a month less 6 days
        x = from(738885, 0, 738910, 0);
        phrase(x, 0, 7, 0, 25);
        x = from(738885, 0, 738911, 0);
        phrase(x, 0, 6, 1, -5);
        // past what between tells: a year less a day, both ways
        x = from(738885, 0, 739250, 0);
        phrase(x, 0, 2, 12, -1);
        x = from(739250, 0, 738885, 0);
        phrase(x, 0, 2, -12, 1);
        // seconds are none of it
        x = from(JAN_31, 5, JAN_31, 0);
        phrase(x, 0, 0, 0, 0);
        x = from(738885, 86399, 739251, 0);
        phrase(x, 0, 1, 12, 0);
        // a month that fails is none
        x = from(JAN_31, 0, LEAP_DAY, 0);
        phrase(x, 3, 5, 0, 29);
        phrase(x, 0, 1, 1, 0);
        // a month more than there is
        x = from(LAST_DAY - 30, 0, LAST_DAY, 0);
        phrase(x, 0, 6, 0, 30);
        x = from(30, 0, 0, 0);
        phrase(x, 0, 6, 0, -30);
        x.week(0);
        Due.same("no slot", x.least(8, 5, 0), -1);
        Due.same("no slot", x.least(-1, 5, 0), -1);
        Due.same("no slot", x.least(4, 8, 0), -1);
        Due.same("no slot", x.least(4, -1, 0), -1);
        Due.same("no law", x.least(4, 5, 4), -1);
        Due.same("no law", x.least(4, 5, -1), -1);
        Due.row(x, 1);
    }

    private static void aged(int from, int fromSecond, int to, int years, int since, int till) {
        DateSpans x = from(from, fromSecond, to, 0);
        Due.same("age", x.age(4, 5), years);
        Due.row(x, since, till);
    }

    private static void age() {
        Due.promise(21, "age");
        aged(730178, 0, 738578, 23, 0, 366);
        aged(730178, 0, 738943, 23, 365, 1);
        aged(730178, 86399, LEAP_DAY, 24, 0, 365);
        aged(LEAP_DAY, 45005, 730178, 0, -8766, 9131);
        aged(LEAP_DAY, 86399, LEAP_DAY, 0, 0, 365);
        aged(738885, 0, 739250, 0, 365, 1);
        aged(738885, 0, 739251, 1, 0, 365);
        aged(0, 0, LAST_DAY, 9998, 364, -2);
        aged(3651694, 0, LAST_DAY, 0, 364, -2);
        aged(LAST_DAY, 0, 0, 0, -LAST_DAY, -2);
        DateSpans x = from(0, 0, 5, 0);
        x.week(0);
        Due.same("no slot", x.age(8, 4), -1);
        Due.same("no slot", x.age(-1, 4), -1);
        Due.same("no slot", x.age(4, 8), -1);
        Due.same("no slot", x.age(4, -1), -1);
        Due.row(x, 1);
    }
}
