/** Promises 26 to 40: steps and turns. */
public final class TurnsTest {
    private static final int LAST_DAY = 3652058;
    private static final int JAN_31 = 738915;
    private static final int LEAP_DAY = 738944;
    private static final int MARCH_31 = 738975;
    private static final int SATURDAY = 738946;

    private TurnsTest() {
    }

    public static void main(String[] args) {
        drift();
        runs();
        next();
        falls();
        nth();
        workdays();
        shifts();
        overlaps();
        leaps();
        again();
        whole();
        floors();
        part();
        mean();
        sorts();
        Due.ends("TurnsTest");
    }

    private static DateSpans at(int day, int second, int months, int days, int seconds) {
        DateSpans x = new DateSpans();
        x.sets(1, day, second);
        x.parts(2, months, days, seconds);
        x.week(0);
        return x;
    }

    private static DateSpans two(int day, int second, int other, int otherSecond) {
        DateSpans x = new DateSpans();
        x.sets(1, day, second);
        x.sets(7, other, otherSecond);
        x.week(0);
        return x;
    }

    private static long instant(int day) {
        return day * 86400L;
    }

    private static void drifts(DateSpans x, int law, int n, long by, long left, long right) {
        Due.same("drift by " + law + ", " + n, x.drift(1, 2, law, n), by);
        Due.row(x, left, right);
    }

    private static void drift() {
        Due.promise(26, "drift");
        DateSpans x = at(JAN_31, 0, 1, 0, 0);
        drifts(x, 0, 12, -172800, 63873705600L, 63873878400L);
        drifts(x, 1, 12, 172800, instant(739283), instant(739281));
        drifts(x, 2, 12, 0, instant(739281), instant(739281));
        drifts(x, 0, 1, 0, instant(LEAP_DAY), instant(LEAP_DAY));
        drifts(x, 3, 0, 0, instant(JAN_31), instant(JAN_31));
        x.week(0);
        Due.same("one behind another fails", x.drift(1, 2, 3, 12), -1000002);
        Due.same("another n", x.drift(1, 2, 0, -1), -1);
        Due.same("another n", x.drift(1, 2, 0, 1001), -1);
        Due.same("no slot", x.drift(8, 2, 0, 1), -1);
        Due.same("no slot", x.drift(-1, 2, 0, 1), -1);
        Due.same("no slot", x.drift(1, 8, 0, 1), -1);
        Due.same("no slot", x.drift(1, -1, 0, 1), -1);
        Due.same("no law", x.drift(1, 2, 4, 1), -1);
        Due.same("no law", x.drift(1, 2, -1, 1), -1);
        Due.row(x, 1);
        Due.moment(x, 1, JAN_31, 0);
        // at once it fails by STRICT, one behind another not
        x = at(739097, 0, 1, -5, 0);
        Due.same("at once fails", x.drift(1, 2, 3, 2), -1000002);
        drifts(x, 3, 1, 0, instant(739123), instant(739123));
        x = at(0, 1, 0, 1, 1);
        drifts(x, 0, 1000, 0, instant(1000) + 1001, instant(1000) + 1001);
        x = at(0, 0, 1000000, 0, 0);
        Due.same("within bounds", x.drift(1, 2, 0, 1000), -1000002);
        x = at(0, 0, 1000001, 0, 0);
        Due.same("beyond bounds", x.drift(1, 2, 0, 1000), -1000009);
        x = at(0, 0, 0, -1000001, 0);
        Due.same("beyond bounds", x.drift(1, 2, 0, 1000), -1000009);
        x = at(0, 0, 0, 0, 1000001);
        Due.same("beyond bounds", x.drift(1, 2, 0, 1000), -1000009);
        drifts(x, 0, 999, 0, 999000999, 999000999);
    }

    private static void gaps(DateSpans x, int law, int n, long fewest, long... row) {
        Due.same("runs by " + law + ", " + n, x.runs(1, 2, law, n), fewest);
        Due.row(x, row);
    }

    private static void runs() {
        Due.promise(27, "runs");
        DateSpans x = at(JAN_31, 0, 1, 0, 0);
        gaps(x, 0, 12, 2505600, 2678400, 0, 1);
        gaps(x, 0, 1, 2505600, 2505600, 0, 0);
        // by OVER: 31 days to the 2nd of March, then 29 to its 31st, then 31 to the 1st of May
        gaps(x, 1, 3, 2505600, 2678400, 1, 0);
        x.week(0);
        Due.same("one fails", x.runs(1, 2, 3, 12), -1000002);
        Due.same("another n", x.runs(1, 2, 0, 0), -1);
        Due.same("another n", x.runs(1, 2, 0, -1), -1);
        Due.same("another n", x.runs(1, 2, 0, 1001), -1);
        Due.same("no slot", x.runs(8, 2, 0, 1), -1);
        Due.same("no slot", x.runs(-1, 2, 0, 1), -1);
        Due.same("no slot", x.runs(1, 8, 0, 1), -1);
        Due.same("no slot", x.runs(1, -1, 0, 1), -1);
        Due.same("no law", x.runs(1, 2, 4, 1), -1);
        Due.same("no law", x.runs(1, 2, -1, 1), -1);
        Due.row(x, 1);
        gaps(at(MARCH_31, 0, -1, 0, 0), 0, 2, -2678400, -2505600, 0, 1);
        gaps(at(5, 5, 0, 1, 1), 0, 1000, 86401, 86401, 0, 0);
        gaps(at(5, 5, 0, 0, 0), 0, 5, 0, 0, 0, 0);
        gaps(at(5, 5, 0, 0, -1), 0, 5, -1, -1, 0, 0);
        Due.same("beyond bounds ahead of one that fails", at(0, 0, 1000001, 0, 0).runs(1, 2, 0, 1000), -1000009);
        Due.same("one fails", at(0, 0, 1000000, 0, 0).runs(1, 2, 0, 1000), -1000002);
        Due.same("the last one fails", at(LAST_DAY - 4, 0, 0, 1, 0).runs(1, 2, 0, 5), -1000002);
        gaps(at(LAST_DAY - 4, 0, 0, 1, 0), 0, 4, 86400, 86400, 0, 0);
    }

    private static void finds(int law, int day, int second, int k, int to, int toSecond) {
        DateSpans x = at(JAN_31, 0, 1, 0, 0);
        x.sets(7, day, second);
        Due.same("next by " + law, x.next(1, 2, law, 7), k);
        Due.row(x, to, toSecond);
    }

    private static void next() {
        Due.promise(28, "next");
        finds(0, LEAP_DAY, 45005, 2, MARCH_31, 0);
        finds(0, LEAP_DAY, 0, 1, LEAP_DAY, 0);
        finds(0, JAN_31, 0, 0, JAN_31, 0);
        finds(0, 0, 0, 0, JAN_31, 0);
        finds(3, LEAP_DAY, 0, 2, MARCH_31, 0);
        finds(3, 739005, 0, 4, 739036, 0);
        DateSpans x = at(5, 0, 0, 0, 1);
        x.sets(7, 5, 10000);
        Due.same("next", x.next(1, 2, 0, 7), 10000);
        Due.row(x, 5, 10000);
        x.week(0);
        x.sets(7, 5, 10001);
        Due.same("none up to 10000", x.next(1, 2, 0, 7), -2);
        x.parts(2, 0, 0, 0);
        Due.same("none", x.next(1, 2, 0, 7), -2);
        x.parts(2, -1, 0, -1);
        Due.same("none", x.next(1, 2, 0, 7), -2);
        x.parts(2, 0, 0, 600000000);
        x.sets(7, 8000, 0);
        Due.same("beyond bounds aside", x.next(1, 2, 0, 7), -2);
        Due.row(x, 1);
        x.sets(7, 6000, 0);
        Due.same("next", x.next(1, 2, 0, 7), 1);
        Due.row(x, 6949, 38400);
        Due.same("no slot", x.next(8, 2, 0, 7), -1);
        Due.same("no slot", x.next(-1, 2, 0, 7), -1);
        Due.same("no slot", x.next(1, 8, 0, 7), -1);
        Due.same("no slot", x.next(1, -1, 0, 7), -1);
        Due.same("no slot", x.next(1, 2, 0, 8), -1);
        Due.same("no slot", x.next(1, 2, 0, -1), -1);
        Due.same("no law", x.next(1, 2, 4, 7), -1);
        Due.same("no law", x.next(1, 2, -1, 7), -1);
        Due.row(x, 6949, 38400);
    }

    private static void comes(DateSpans x, int law, int n, int weekday, int times, int first) {
        Due.same("falls by " + law + ", " + n + ", " + weekday, x.falls(1, 2, law, n, weekday), times);
        Due.row(x, first);
    }

    private static void falls() {
        Due.promise(29, "falls");
        DateSpans x = at(JAN_31, 0, 0, 7, 0);
        comes(x, 0, 10, 2, 11, 0);
        comes(x, 0, 0, 2, 1, 0);
        comes(x, 0, 1000, 2, 1001, 0);
        comes(x, 0, 10, 3, 0, -1);
        x = at(JAN_31, 0, 0, 1, 0);
        comes(x, 0, 6, 0, 1, 5);
        comes(x, 0, 5, 0, 1, 5);
        comes(x, 0, 4, 0, 0, -1);
        comes(x, 0, 19, 6, 3, 4);
        x = at(JAN_31, 0, 1, 0, 0);
        comes(x, 0, 11, 2, 2, 0);
        comes(x, 0, 3, 3, 1, 1);
        comes(x, 3, 3, 3, 0, -1);
        comes(x, 3, 3, 6, 1, 2);
        comes(at(0, 0, 0, 0, 600000000), 0, 1000, 0, 2, 0);
        comes(at(LAST_DAY, 0, 0, 1, 0), 0, 1000, 4, 1, 0);
        x.week(0);
        Due.same("another n", x.falls(1, 2, 0, -1, 0), -1);
        Due.same("another n", x.falls(1, 2, 0, 1001, 0), -1);
        Due.same("no day of the week", x.falls(1, 2, 0, 1, 7), -1);
        Due.same("no day of the week", x.falls(1, 2, 0, 1, -1), -1);
        Due.same("no slot", x.falls(8, 2, 0, 1, 0), -1);
        Due.same("no slot", x.falls(-1, 2, 0, 1, 0), -1);
        Due.same("no slot", x.falls(1, 8, 0, 1, 0), -1);
        Due.same("no slot", x.falls(1, -1, 0, 1, 0), -1);
        Due.same("no law", x.falls(1, 2, 4, 1, 0), -1);
        Due.same("no law", x.falls(1, 2, -1, 1, 0), -1);
        Due.row(x, 1);
    }

    private static void nth() {
        Due.promise(30, "nth");
        DateSpans x = new DateSpans();
        int[] thursdays = {738916, 738923, 738930, 738937, LEAP_DAY};
        for (int n = 1; n <= 5; n++) {
            Due.same("nth " + n, x.nth(2024, 2, 3, n), thursdays[n - 1]);
            Due.same("nth " + -n, x.nth(2024, 2, 3, -n), thursdays[5 - n]);
        }
        int[] mondays = {738920, 738927, 738934, 738941};
        for (int n = 1; n <= 4; n++) {
            Due.same("nth " + n, x.nth(2024, 2, 0, n), mondays[n - 1]);
            Due.same("nth " + -n, x.nth(2024, 2, 0, -n), mondays[4 - n]);
        }
        Due.same("no fifth", x.nth(2024, 2, 0, 5), -2);
        Due.same("no fifth", x.nth(2024, 2, 0, -5), -2);
        Due.same("nth", x.nth(1, 1, 0, 1), 0);
        Due.same("nth", x.nth(1, 1, 6, 1), 6);
        Due.same("nth", x.nth(9999, 12, 4, -1), LAST_DAY);
        Due.same("nth", x.nth(9999, 12, 5, -1), LAST_DAY - 6);
        int[][] wrong = {{0, 1, 0, 1}, {10000, 1, 0, 1}, {-1, 1, 0, 1}, {2024, 0, 0, 1}, {2024, 13, 0, 1},
            {2024, 1, -1, 1}, {2024, 1, 7, 1}, {2024, 1, 0, 0}, {2024, 1, 0, 6}, {2024, 1, 0, -6}};
        for (int[] w : wrong) {
            Due.same("nth", x.nth(w[0], w[1], w[2], w[3]), -1);
        }
        Due.row(x);
    }

    private static void works(int from, int to, int work, long... each) {
        DateSpans x = two(from, 86399, to, 0);
        Due.same("workdays", x.workdays(1, 7), work);
        Due.row(x, each);
        Due.same("workdays the other way", x.workdays(7, 1), -work);
        Due.row(x, each);
    }

    private static void workdays() {
        Due.promise(31, "workdays");
        works(JAN_31, SATURDAY, 23, 4, 4, 5, 5, 5, 4, 4);
        works(SATURDAY, SATURDAY + 2, 0, 0, 0, 0, 0, 0, 1, 1);
        works(SATURDAY + 1, SATURDAY + 3, 1, 1, 0, 0, 0, 0, 0, 1);
        works(SATURDAY - 1, SATURDAY, 1, 0, 0, 0, 0, 1, 0, 0);
        works(JAN_31, JAN_31, 0, 0, 0, 0, 0, 0, 0, 0);
        works(JAN_31, JAN_31 + 7, 5, 1, 1, 1, 1, 1, 1, 1);
        works(0, LAST_DAY, 2608614, 521723, 521723, 521723, 521723, 521722, 521722, 521722);
        DateSpans x = two(0, 0, 7, 0);
        Due.same("no slot", x.workdays(8, 1), -1);
        Due.same("no slot", x.workdays(-1, 1), -1);
        Due.same("no slot", x.workdays(1, 8), -1);
        Due.same("no slot", x.workdays(1, -1), -1);
        Due.row(x, 1);
    }

    private static void shifted(int day, int n, int to, int passed) {
        DateSpans x = two(day, 77, 0, 0);
        Due.same("shifts " + n, x.shifts(1, n, 7), to);
        Due.moment(x, 7, to, 77);
        Due.moment(x, 1, day, 77);
        Due.row(x, passed);
    }

    private static void shifts() {
        Due.promise(32, "shifts");
        shifted(JAN_31, 3, 738920, 2);
        shifted(JAN_31, -3, 738910, 2);
        shifted(JAN_31, 2, 738917, 0);
        shifted(SATURDAY, 0, SATURDAY, 0);
        shifted(SATURDAY, 1, SATURDAY + 2, 1);
        shifted(SATURDAY + 1, 1, SATURDAY + 2, 0);
        shifted(SATURDAY, -1, SATURDAY - 1, 0);
        shifted(SATURDAY + 1, -1, SATURDAY - 1, 1);
        shifted(0, 10000, 14000, 4000);
        shifted(14000, -10000, 0, 4000);
        shifted(LAST_DAY, -1, LAST_DAY - 1, 0);
        shifted(LAST_DAY, 0, LAST_DAY, 0);
        DateSpans x = two(0, 5, LAST_DAY, 6);
        Due.same("ahead of the first day", x.shifts(1, -1, 1), -2);
        Due.same("behind the last day", x.shifts(7, 1, 7), -2);
        Due.same("another n", x.shifts(1, 10001, 7), -1);
        Due.same("another n", x.shifts(1, -10001, 7), -1);
        Due.same("another n", x.shifts(1, Integer.MIN_VALUE, 7), -1);
        Due.same("no slot", x.shifts(8, 1, 7), -1);
        Due.same("no slot", x.shifts(-1, 1, 7), -1);
        Due.same("no slot comes ahead of -2", x.shifts(1, -1, 8), -1);
        Due.same("no slot", x.shifts(1, 1, -1), -1);
        Due.moment(x, 1, 0, 5);
        Due.moment(x, 7, LAST_DAY, 6);
        Due.row(x, 1);
    }

    private static void common(int a, int b, int c, int d, long seconds, long begins, long apart) {
        DateSpans x = new DateSpans();
        int[] all = {a, b, c, d};
        for (int k = 0; k < 4; k++) {
            x.sets(k, 10, all[k]);
        }
        int[][] ways = {{0, 1, 2, 3}, {1, 0, 2, 3}, {0, 1, 3, 2}, {2, 3, 0, 1}, {3, 2, 1, 0}};
        for (int[] w : ways) {
            Due.same("overlaps", x.overlaps(w[0], w[1], w[2], w[3]), seconds);
            Due.row(x, begins, apart);
        }
    }

    private static void overlaps() {
        Due.promise(33, "overlaps");
        common(10, 20, 15, 30, 5, 864015, 0);
        common(10, 40, 15, 30, 15, 864015, 0);
        common(10, 20, 20, 30, 0, 864020, 0);
        common(10, 20, 21, 30, 0, 864021, 1);
        common(10, 20, 10, 20, 10, 864010, 0);
        common(10, 10, 10, 10, 0, 864010, 0);
        common(10, 20, 15, 15, 0, 864015, 0);
        common(10, 10, 100, 100, 0, 864100, 90);
        DateSpans x = two(0, 0, LAST_DAY, 86399);
        Due.same("overlaps", x.overlaps(1, 7, 7, 1), 315537897599L);
        Due.row(x, 0, 0);
        for (int slot = -1; slot < 9; slot += 9) {
            Due.same("no slot", x.overlaps(slot, 1, 1, 1), -1);
            Due.same("no slot", x.overlaps(1, slot, 1, 1), -1);
            Due.same("no slot", x.overlaps(1, 1, slot, 1), -1);
            Due.same("no slot", x.overlaps(1, 1, 1, slot), -1);
        }
        Due.row(x, 0, 0);
    }

    private static void leapDays(int from, int to, int many, int first, int last) {
        DateSpans x = two(from, 86399, to, 0);
        Due.same("leaps", x.leaps(1, 7), many);
        Due.row(x, first, last);
        Due.same("leaps the other way", x.leaps(7, 1), many);
        Due.row(x, first, last);
    }

    private static void leaps() {
        Due.promise(34, "leaps");
        leapDays(730178, LEAP_DAY, 7, 730178, LEAP_DAY);
        leapDays(730179, LEAP_DAY - 1, 5, 731639, 737483);
        leapDays(LEAP_DAY, LEAP_DAY, 1, LEAP_DAY, LEAP_DAY);
        leapDays(LEAP_DAY + 1, LEAP_DAY + 1, 0, -1, -1);
        leapDays(JAN_31, LEAP_DAY, 1, LEAP_DAY, LEAP_DAY);
        leapDays(693595, 695054, 0, -1, -1);
        leapDays(0, LAST_DAY, 2424, 1154, 3650657);
        DateSpans x = two(0, 0, 0, 0);
        Due.same("no slot", x.leaps(8, 1), -1);
        Due.same("no slot", x.leaps(-1, 1), -1);
        Due.same("no slot", x.leaps(1, 8), -1);
        Due.same("no slot", x.leaps(1, -1), -1);
        Due.row(x, 1);
    }

    private static void comesAgain(int day, int n, int to, int year) {
        DateSpans x = two(day, 5, 0, 0);
        Due.same("again " + n, x.again(1, n), to);
        Due.row(x, year);
        Due.moment(x, 1, day, 5);
    }

    private static void again() {
        Due.promise(35, "again");
        comesAgain(LEAP_DAY, 1, 740405, 2028);
        comesAgain(LEAP_DAY, 18, 765242, 2096);
        comesAgain(LEAP_DAY, 19, 768163, 2104);
        comesAgain(LEAP_DAY, 100, 889424, 2436);
        comesAgain(JAN_31, 2, 739646, 2026);
        comesAgain(LEAP_DAY + 1, 1, 739310, 2025);
        comesAgain(3651329, 1, 3651694, 9999);
        comesAgain(0, 100, 36524, 101);
        DateSpans x = two(3651329, 5, 3650657, 0);
        Due.same("none", x.again(1, 2), -2);
        Due.same("none", x.again(7, 1), -2);
        Due.same("another n", x.again(1, 0), -1);
        Due.same("another n", x.again(1, 101), -1);
        Due.same("another n", x.again(1, -1), -1);
        Due.same("no slot", x.again(8, 1), -1);
        Due.same("no slot", x.again(-1, 1), -1);
        Due.row(x, 1);
    }

    private static void wholes(int from, int to, int many, int ahead, int behind) {
        DateSpans x = two(from, 86399, to, 0);
        Due.same("whole", x.whole(1, 7), many);
        Due.row(x, ahead, behind);
        Due.same("whole the other way", x.whole(7, 1), many);
        Due.row(x, ahead, behind);
    }

    private static void whole() {
        Due.promise(36, "whole");
        wholes(JAN_31, MARCH_31, 1, 1, 30);
        wholes(JAN_31, LEAP_DAY, 0, 29, 0);
        wholes(JAN_31, LEAP_DAY + 1, 1, 1, 0);
        wholes(738916, LEAP_DAY + 1, 1, 0, 0);
        wholes(738917, LEAP_DAY + 1, 0, 28, 0);
        wholes(738885, 739251, 12, 0, 0);
        wholes(738886, 739252, 11, 30, 1);
        wholes(JAN_31, JAN_31, 0, 0, 0);
        wholes(738916, 738916, 0, 0, 0);
        wholes(738917, 738930, 0, 13, 0);
        wholes(0, LAST_DAY, 119987, 0, 30);
        DateSpans x = two(0, 0, 0, 0);
        Due.same("no slot", x.whole(8, 1), -1);
        Due.same("no slot", x.whole(-1, 1), -1);
        Due.same("no slot", x.whole(1, 8), -1);
        Due.same("no slot", x.whole(1, -1), -1);
        Due.row(x, 1);
    }

    private static void cut(int day, int second, int what, int to, int toSecond, long off) {
        DateSpans x = two(day, second, 0, 0);
        Due.same("floors " + what, x.floors(1, what, 7), to);
        Due.moment(x, 7, to, toSecond);
        Due.moment(x, 1, day, second);
        Due.row(x, toSecond, off);
    }

    private static void floors() {
        Due.promise(37, "floors");
        cut(LEAP_DAY, 45005, 0, LEAP_DAY, 45000, 5);
        cut(LEAP_DAY, 45005, 1, LEAP_DAY, 43200, 1805);
        cut(LEAP_DAY, 45005, 2, LEAP_DAY, 0, 45005);
        cut(LEAP_DAY, 45005, 3, 738941, 0, 304205);
        cut(LEAP_DAY, 45005, 4, 738916, 0, 2464205);
        cut(LEAP_DAY, 45005, 5, 738885, 0, 5142605);
        for (int what = 0; what < 6; what++) {
            cut(0, 0, what, 0, 0, 0);
        }
        cut(0, 86399, 0, 0, 86340, 59);
        cut(0, 86399, 1, 0, 82800, 3599);
        cut(6, 0, 3, 0, 0, 518400);
        cut(7, 0, 3, 7, 0, 0);
        cut(LAST_DAY, 86399, 3, LAST_DAY - 4, 0, 431999);
        cut(LAST_DAY, 86399, 4, 3652028, 0, 2678399);
        cut(LAST_DAY, 86399, 5, 3651694, 0, 31535999);
        DateSpans x = two(5, 5, 6, 6);
        Due.same("another what", x.floors(1, 6, 7), -1);
        Due.same("another what", x.floors(1, -1, 7), -1);
        Due.same("no slot", x.floors(8, 0, 7), -1);
        Due.same("no slot", x.floors(-1, 0, 7), -1);
        Due.same("no slot", x.floors(1, 0, 8), -1);
        Due.same("no slot", x.floors(1, 0, -1), -1);
        Due.moment(x, 7, 6, 6);
        Due.row(x, 1);
        Due.same("into itself", x.floors(1, 2, 1), 5);
        Due.moment(x, 1, 5, 0);
        Due.row(x, 0, 5);
    }

    private static void parted(DateSpans x, int a, int b, int k, int n, int day, int second) {
        Due.same("part " + k + " of " + n, x.part(a, b, k, n, 5), day);
        Due.moment(x, 5, day, second);
        Due.row(x, second);
    }

    private static void part() {
        Due.promise(38, "part");
        DateSpans x = two(JAN_31, 0, MARCH_31, 0);
        parted(x, 1, 7, 1, 2, 738945, 0);
        parted(x, 1, 7, 1, 7, 738923, 49371);
        parted(x, 7, 1, 1, 7, 738966, 37029);
        parted(x, 1, 7, 0, 7, JAN_31, 0);
        parted(x, 1, 7, 7, 7, MARCH_31, 0);
        parted(x, 7, 1, 1000, 1000, JAN_31, 0);
        parted(x, 1, 7, 0, 1, JAN_31, 0);
        // cut towards where it began, both ways
        x = two(10, 0, 10, 1);
        parted(x, 1, 7, 1, 2, 10, 0);
        parted(x, 7, 1, 1, 2, 10, 1);
        x = two(0, 0, LAST_DAY, 86399);
        parted(x, 1, 7, 999, 1000, 3648406, 81301);
        parted(x, 7, 1, 999, 1000, 3652, 5098);
        int[][] wrong = {{8, 7, 1, 2, 5}, {-1, 7, 1, 2, 5}, {1, 8, 1, 2, 5}, {1, -1, 1, 2, 5}, {1, 7, 3, 2, 5},
            {1, 7, -1, 2, 5}, {1, 7, 0, 0, 5}, {1, 7, 0, -1, 5}, {1, 7, 1, 1001, 5}, {1, 7, 1, 2, 8}, {1, 7, 1, 2, -1}};
        for (int[] w : wrong) {
            Due.same("part", x.part(w[0], w[1], w[2], w[3], w[4]), -1);
        }
        Due.moment(x, 5, 3652, 5098);
        Due.row(x, 5098);
    }

    private static void meant(DateSpans x, int slots, int day, int second, int first, int last) {
        Due.same("mean " + slots, x.mean(slots), day);
        Due.row(x, second, first, last);
    }

    private static void mean() {
        Due.promise(39, "mean");
        DateSpans x = new DateSpans();
        x.sets(0, LEAP_DAY, 45005);
        x.sets(1, JAN_31, 0);
        x.sets(2, JAN_31, 0);
        x.sets(3, LEAP_DAY, 45005);
        meant(x, 3, 738929, 65702, 1, 0);
        meant(x, 1, LEAP_DAY, 45005, 0, 0);
        meant(x, 2, JAN_31, 0, 1, 1);
        meant(x, 15, 738929, 65702, 1, 0);
        meant(x, 12, 738929, 65702, 2, 3);
        meant(x, 14, 738924, 72601, 1, 3);
        meant(x, 240, 0, 0, 4, 4);
        x.sets(7, LAST_DAY, 86399);
        meant(x, 128, LAST_DAY, 86399, 7, 7);
        meant(x, 255, 825972, 22051, 4, 7);
        x.week(0);
        Due.same("no bits", x.mean(0), -1);
        Due.same("no such bits", x.mean(256), -1);
        Due.same("no such bits", x.mean(-1), -1);
        Due.same("no such bits", x.mean(257), -1);
        Due.row(x, 1);
    }

    private static void sorts() {
        Due.promise(40, "sorts");
        DateSpans x = new DateSpans();
        Due.same("sorts", x.sorts(), 0);
        Due.row(x, 0, 1, 2, 3, 4, 5, 6, 7);
        int[][] all = {{5, 1}, {5, 0}, {LAST_DAY, 86399}, {4, 86399}, {5, 1}, {0, 0}, {5, 0}, {0, 0}};
        for (int i = 0; i < 8; i++) {
            x.sets(i, all[i][0], all[i][1]);
        }
        Due.same("sorts", x.sorts(), 5);
        Due.row(x, 5, 7, 3, 1, 6, 0, 4, 2);
        Due.moment(x, 0, 5, 1);
        Due.moment(x, 5, 0, 0);
    }
}
