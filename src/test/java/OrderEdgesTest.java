/** Spans compared and laws of order, sentence by sentence: promises 22 to 25, each boundary on both sides. */
public final class OrderEdgesTest {
    private static final int LAST = 3652058;
    private static final int FIRST_START = 730119;
    private static final int LAST_START = 876215;
    private static final int STARTS = 146097;
    private static final int CLAMP = 0;
    private static final int OVER = 1;
    private static final int END = 2;
    private static final int STRICT = 3;

    private OrderEdgesTest() {
    }

    public static void main(String[] args) {
        compareBits();
        compareAside();
        compareAll();
        lastsOne();
        lastsAlways();
        lastsAll();
        failsFrom();
        failsWindow();
        failsEach();
        failsAside();
        failsBeyond();
        oftenNone();
        oftenMost();
        oftenBeyond();
        oftenAll();
        Due.ends("OrderEdgesTest");
    }

    private static DateSpans two(int[] s, int[] t) {
        DateSpans x = Held.filled();
        x.parts(0, s[0], s[1], s[2]);
        x.parts(7, t[0], t[1], t[2]);
        return x;
    }

    private static int[] of(int... numbers) {
        return numbers;
    }

    private static long[] wide(int[] span, int times) {
        return new long[] {(long) span[0] * times, (long) span[1] * times, (long) span[2] * times};
    }

    private static Long led(long instant, int[] span, int times, int law, int order) {
        long[] at = Model.added(instant, wide(span, times), law, order);
        return at == null ? null : Long.valueOf(at[0]);
    }

    // ---- promise 22

    private static void compares(int[] s, int[] t, int law, int bits, long... row) {
        DateSpans x = two(s, t);
        Held held = Held.of(x).row(row);
        Due.same("compare by " + law, x.compare(0, 7, law), bits);
        held.ends("compare by " + law);
    }

    private static void compareBits() {
        Due.sentence(22, "bits: 1 if s ADDED leads to less than t somewhere, 2 to the same, 4 to more; .. (NONE)");
        compares(of(0, 0, 0), of(0, 0, 1), CLAMP, 1, STARTS, 0, 0, FIRST_START, -1, -1);
        compares(of(0, 0, 1), of(0, 0, 1), CLAMP, 2, 0, STARTS, 0, -1, FIRST_START, -1);
        compares(of(0, 0, 2), of(0, 0, 1), CLAMP, 4, 0, 0, STARTS, -1, -1, FIRST_START);
        compares(of(0, 1, 0), of(0, 0, 86400), STRICT, 2, 0, STARTS, 0, -1, FIRST_START, -1);
        compares(of(0, 1, 0), of(0, 0, 86399), STRICT, 4, 0, 0, STARTS, -1, -1, FIRST_START);
        compares(of(0, 1, 0), of(0, 0, 86401), STRICT, 1, STARTS, 0, 0, FIRST_START, -1, -1);
        DateSpans x = two(of(1, 1, 1), of(1, 1, 1));
        Due.same("compare of one SLOT", x.compare(0, 0, END), 2);
        Due.row(x, 0, STARTS, 0, -1, FIRST_START, -1);
        Due.sentence(22, "how often each: 28 days are a month from all days of February but 29ths, and by CLAMP from some ends");
        compares(of(1, 0, 0), of(0, 28, 0), OVER, 6, 0, 303 * 28, STARTS - 303 * 28, -1, Due.day(2001, 2, 1), FIRST_START);
        compares(of(1, 0, 0), of(0, 31, 0), OVER, 3, STARTS - 7 * 400 * 31, 7 * 400 * 31, 0, Due.day(2000, 2, 1), FIRST_START, -1);
        Due.sentence(0, "SPANS are ADDED to them by ORDER 0: a day behind a month is a day more always");
        compares(of(1, 1, 0), of(1, 0, 0), CLAMP, 4, 0, 0, STARTS, -1, -1, FIRST_START);
        compares(of(1, 0, 1), of(1, 0, 0), END, 4, 0, 0, STARTS, -1, -1, FIRST_START);
    }

    private static void compareAside() {
        Due.sentence(0, "ALL STARTS: .. those by which one fails are left aside: from the first one on");
        compares(of(0, -FIRST_START, 0), of(0, 0, 0), CLAMP, 1, STARTS, 0, 0, FIRST_START, -1, -1);
        compares(of(0, -FIRST_START - 1, 0), of(0, 0, 0), CLAMP, 1, STARTS - 1, 0, 0, FIRST_START + 1, -1, -1);
        compares(of(0, 0, 0), of(0, -FIRST_START - 1, 0), CLAMP, 4, 0, 0, STARTS - 1, -1, -1, FIRST_START + 1);
        compares(of(0, -FIRST_START, -1), of(0, 0, 0), CLAMP, 1, STARTS - 1, 0, 0, FIRST_START + 1, -1, -1);
        Due.sentence(0, "SECOND 0 of each DAY .. up to the last one");
        compares(of(0, LAST - LAST_START, 86399), of(0, 0, 0), CLAMP, 4, 0, 0, STARTS, -1, -1, FIRST_START);
        compares(of(0, LAST - LAST_START, 86400), of(0, 0, 0), CLAMP, 4, 0, 0, STARTS - 1, -1, -1, FIRST_START);
        compares(of(0, LAST - LAST_START + 1, 0), of(0, 0, 0), CLAMP, 4, 0, 0, STARTS - 1, -1, -1, FIRST_START);
        compares(of(0, 0, 0), of(0, LAST - LAST_START + 1, 0), CLAMP, 1, STARTS - 1, 0, 0, FIRST_START, -1, -1);
        Due.sentence(0, "one of them, and none");
        compares(of(0, -LAST_START, 0), of(0, 0, 0), CLAMP, 1, 1, 0, 0, LAST_START, -1, -1);
        compares(of(0, -LAST_START - 1, 0), of(0, 0, 0), CLAMP, 0, 0, 0, 0, -1, -1, -1);
        compares(of(0, LAST - FIRST_START, 0), of(0, 0, 0), CLAMP, 4, 0, 0, 1, -1, -1, FIRST_START);
        compares(of(0, LAST - FIRST_START + 1, 0), of(0, 0, 0), CLAMP, 0, 0, 0, 0, -1, -1, -1);
        compares(of(0, -LAST_START, 0), of(0, LAST - FIRST_START, 0), CLAMP, 0, 0, 0, 0, -1, -1, -1);
        Due.sentence(22, "by a LAW: by STRICT the 29ths to 31sts that a month is too short for are aside");
        int aside = 303 * 3 + 97 * 2 + 4 * 400;
        compares(of(1, 0, 0), of(1, 0, 0), STRICT, 2, 0, STARTS - aside, 0, -1, FIRST_START, -1);
    }

    private static void compareAll() {
        Due.sentence(22, "the ROW: how often each, the first DAY of each");
        int[][][] all = {{{1, 0, 0}, {0, 30, 0}}, {{12, 0, 0}, {0, 365, 0}}, {{-1, 0, 0}, {0, -30, -5}}, {{2, -3, 0}, {1, 28, 0}}};
        for (int[][] a : all) {
            for (int law = 0; law < 4; law++) {
                long[] row = {0, 0, 0, -1, -1, -1};
                int bits = 0;
                for (int day = FIRST_START; day <= LAST_START; day++) {
                    Long left = led(day * 86400L, a[0], 1, law, 0);
                    Long right = led(day * 86400L, a[1], 1, law, 0);
                    if (left != null && right != null) {
                        int kind = left < right ? 0 : left > right ? 2 : 1;
                        row[kind]++;
                        row[3 + kind] = row[3 + kind] < 0 ? day : row[3 + kind];
                        bits |= 1 << kind;
                    }
                }
                compares(a[0], a[1], law, bits, row);
            }
        }
    }

    // ---- promise 23

    private static void lasting(int[] s, int law, long... row) {
        DateSpans x = two(s, of(1, 1, 1));
        Held held = Held.of(x).row(row);
        Due.same("lasts by " + law, x.lasts(0, law), row[0]);
        held.ends("lasts by " + law);
    }

    private static void lastsOne() {
        Due.sentence(23, "How many SECONDS a SPAN lasts at least .. in how many ways it lasts (unlike numbers)");
        lasting(of(0, 0, 0), CLAMP, 0, 0, FIRST_START, FIRST_START, 1);
        lasting(of(0, 3, 5), CLAMP, 259205, 259205, FIRST_START, FIRST_START, 1);
        lasting(of(1, 0, 0), CLAMP, 28 * 86400, 31 * 86400, Due.day(2001, 1, 31), FIRST_START, 4);
        lasting(of(1, 0, 0), OVER, 28 * 86400, 31 * 86400, Due.day(2001, 2, 1), FIRST_START, 4);
        lasting(of(12, 0, 0), CLAMP, 365 * 86400, 366 * 86400, Due.day(2000, 2, 29), FIRST_START, 2);
        lasting(of(12, 0, 0), OVER, 365 * 86400, 366 * 86400, Due.day(2000, 3, 1), FIRST_START, 2);
        lasting(of(4800, 0, 0), OVER, STARTS * 86400L, STARTS * 86400L, FIRST_START, FIRST_START, 1);
        Due.sentence(23, "at least: numbers below 0, -1 and -2 of them, are meant, and told with their ROW");
        for (int seconds : of(-1, -2, -9, -86400)) {
            lasting(of(0, 0, seconds), CLAMP, seconds, seconds, FIRST_START, FIRST_START, 1);
        }
        lasting(of(-1, 0, 0), CLAMP, -31 * 86400, -28 * 86400, FIRST_START, Due.day(2001, 3, 1), 4);
    }

    private static void lastsAlways() {
        Due.sentence(23, "-2: it fails always: one start alone that does not");
        lasting(of(0, LAST - FIRST_START, 86399), CLAMP, (LAST - FIRST_START) * 86400L + 86399,
                (LAST - FIRST_START) * 86400L + 86399, FIRST_START, FIRST_START, 1);
        lastsNever(of(0, LAST - FIRST_START, 86400), CLAMP);
        lastsNever(of(0, LAST - FIRST_START + 1, 0), CLAMP);
        lasting(of(0, -LAST_START, 0), CLAMP, -LAST_START * 86400L, -LAST_START * 86400L, LAST_START, LAST_START, 1);
        lastsNever(of(0, -LAST_START, -1), CLAMP);
        lastsNever(of(0, -LAST_START - 1, 0), CLAMP);
        lasting(of(95999, 0, 0), CLAMP, (LAST - 30 - FIRST_START) * 86400L, (LAST - 30 - FIRST_START) * 86400L,
                FIRST_START, FIRST_START, 1);
        lastsNever(of(96000, 0, 0), CLAMP);
        lasting(of(-28787, 0, 0), CLAMP, (30 - LAST_START) * 86400L, (30 - LAST_START) * 86400L, Due.day(2399, 12, 1),
                Due.day(2399, 12, 1), 1);
        lastsNever(of(-28788, 0, 0), CLAMP);
        lastsNever(of(1000000000, 0, 0), STRICT);
        lastsNever(of(0, -1000000000, 0), STRICT);
    }

    private static void lastsNever(int[] s, int law) {
        DateSpans x = two(s, of(1, 1, 1));
        Held held = Held.of(x);
        Due.same("lasts, which fails always", x.lasts(0, law), -2);
        held.ends("lasts, which fails always");
    }

    private static void lastsAll() {
        Due.sentence(23, "the ROW: that, at most, the first DAYS of both, in how many ways it lasts");
        int[][] all = {{1, 0, 0}, {11, -5, 7}, {-2, 0, 0}, {1261, 0, 0}, {93600, 0, 0}, {-24001, 0, 0}};
        for (int[] s : all) {
            for (int law = 0; law < 4; law++) {
                long[] row = {Long.MAX_VALUE, Long.MIN_VALUE, -1, -1, 0};
                java.util.TreeSet<Long> ways = new java.util.TreeSet<>();
                for (int day = FIRST_START; day <= LAST_START; day++) {
                    Long to = led(day * 86400L, s, 1, law, 0);
                    if (to != null) {
                        long lasts = to - day * 86400L;
                        ways.add(lasts);
                        row[2] = lasts < row[0] ? day : row[2];
                        row[3] = lasts > row[1] ? day : row[3];
                        row[0] = Math.min(row[0], lasts);
                        row[1] = Math.max(row[1], lasts);
                    }
                }
                row[4] = ways.size();
                lasting(s, law, row);
                Due.yes("1261 months last in seven ways", s[0] != 1261 || row[4] == 7);
            }
        }
    }

    // ---- promise 24

    private static void fails(int[] s, int[] t, int what, int law, int day, int due, long left, long right) {
        DateSpans x = two(s, t);
        Held held = Held.of(x).row(left, right);
        Due.same("fails(" + what + ") by " + law + " from " + day, x.fails(what, 0, 7, law, day), due);
        held.ends("fails(" + what + ") by " + law + " from " + day);
    }

    private static void failsNot(int[] s, int[] t, int what, int law, int day, int due) {
        DateSpans x = two(s, t);
        Held held = Held.of(x);
        Due.same("fails(" + what + ") by " + law + " from " + day, x.fails(what, 0, 7, law, day), due);
        held.ends("fails(" + what + ") by " + law + " from " + day);
    }

    private static long instant(int year, int month, int day) {
        return Due.day(year, month, day) * 86400L;
    }

    private static void failsFrom() {
        Due.sentence(24, "The first DAY, from a told one on");
        int day = Due.day(2023, 1, 29);
        long left = instant(2023, 1, 28);
        for (int from : of(day - 20, day - 1, day)) {
            fails(of(1, 0, 0), of(0, 0, 0), 1, CLAMP, from, day, left, day * 86400L);
        }
        fails(of(1, 0, 0), of(0, 0, 0), 1, CLAMP, day + 1, day + 1, left, (day + 1) * 86400L);
        fails(of(1, 0, 0), of(0, 0, 0), 1, CLAMP, day + 3, Due.day(2023, 3, 31), instant(2023, 3, 30), instant(2023, 3, 31));
        fails(of(1, 0, 0), of(0, 0, 0), 1, CLAMP, 0, 28, 27 * 86400L, 28 * 86400L);
        Due.sentence(24, "-2: none");
        failsNot(of(0, 3, 4), of(0, 0, 0), 1, CLAMP, day, -2);
        failsNot(of(1, 0, 0), of(0, 0, 0), 1, STRICT, day, -2);
        failsNot(of(0, 0, 0), of(0, 0, 0), 0, CLAMP, 0, -2);
        failsNot(of(0, 0, 0), of(0, 0, 0), 2, CLAMP, LAST, -2);
    }

    private static void failsWindow() {
        // months that are added to the last two months there are alone, and to December's last three days go wrong
        int[] s = {-119986, 0, 0};
        int day = LAST - 2;
        long left = (LAST - 3) * 86400L;
        Due.sentence(24, "(at most 146097 are looked at ..)");
        fails(s, of(0, 0, 0), 1, CLAMP, day - 146096, day, left, day * 86400L);
        failsNot(s, of(0, 0, 0), 1, CLAMP, day - 146097, -2);
        failsNot(s, of(0, 0, 0), 1, CLAMP, 0, -2);
        Due.sentence(24, "(.. as far as there are any)");
        fails(s, of(0, 0, 0), 1, CLAMP, day - 146095, day, left, day * 86400L);
        fails(s, of(0, 0, 0), 1, CLAMP, day - 1, day, left, day * 86400L);
        fails(s, of(0, 0, 0), 1, CLAMP, LAST, LAST, left, LAST * 86400L);
        failsNot(of(0, 1, 0), of(0, 0, 0), 1, CLAMP, LAST, -2);
        failsNot(of(-119986, 0, 0), of(0, 0, 0), 1, CLAMP, LAST + 1, -1);
        failsNot(of(-119986, 0, 0), of(0, 0, 0), 1, CLAMP, -1, -1);
    }

    private static void failsEach() {
        Due.sentence(24, "what 0: s ADDED, then t, is not t, then s; the ROW: both INSTANTS");
        fails(of(1, 0, 0), of(0, 1, 0), 0, CLAMP, Due.day(2023, 1, 20), Due.day(2023, 1, 28), instant(2023, 3, 1), instant(2023, 2, 28));
        fails(of(0, 1, 0), of(1, 0, 0), 0, CLAMP, Due.day(2023, 1, 20), Due.day(2023, 1, 28), instant(2023, 2, 28), instant(2023, 3, 1));
        fails(of(0, 0, 86400), of(1, 0, 0), 0, OVER, Due.day(2023, 1, 20), Due.day(2023, 1, 31),
                instant(2023, 3, 1), instant(2023, 3, 4));
        Due.sentence(24, "1: s, then s TURNED, is not where it began");
        fails(of(1, 2, 0), of(0, 0, 0), 1, END, Due.day(2023, 2, 20), Due.day(2023, 2, 27), instant(2023, 3, 1) - 3 * 86400,
                instant(2023, 2, 27));
        fails(of(-1, 0, 0), of(5, 5, 5), 1, CLAMP, Due.day(2023, 3, 1), Due.day(2023, 3, 29), instant(2023, 3, 28),
                instant(2023, 3, 29));
        Due.sentence(24, "2: s twice is not twice s");
        fails(of(1, 0, 0), of(5, 5, 5), 2, CLAMP, Due.day(2023, 1, 1), Due.day(2023, 1, 29), instant(2023, 3, 28),
                instant(2023, 3, 29));
        fails(of(1, 0, 0), of(5, 5, 5), 2, OVER, Due.day(2023, 1, 1), Due.day(2023, 1, 29), instant(2023, 4, 1),
                instant(2023, 3, 29));
        failsNot(of(0, 500, 500), of(5, 5, 5), 2, OVER, 0, -2);
        Due.sentence(24, "3: ORDER 0 is not ORDER 1 of s");
        fails(of(1, 1, 0), of(5, 5, 5), 3, CLAMP, Due.day(2023, 1, 1), Due.day(2023, 1, 28), instant(2023, 3, 1),
                instant(2023, 2, 28));
        fails(of(1, 0, -1), of(5, 5, 5), 3, CLAMP, Due.day(2023, 1, 1), Due.day(2023, 1, 29), instant(2023, 2, 28) - 1,
                instant(2023, 2, 28) + 86399);
        failsNot(of(5, 0, 0), of(5, 5, 5), 3, CLAMP, 0, -2);
        Due.sentence(24, "(SECOND 0; by LAW; ORDER 0 else)");
        failsNot(of(1, 0, 86399), of(5, 5, 5), 3, CLAMP, Due.day(2023, 1, 1), -2);
        fails(of(1, 0, 86400), of(5, 5, 5), 3, CLAMP, Due.day(2023, 1, 1), Due.day(2023, 1, 28), instant(2023, 3, 1),
                instant(2023, 2, 28));
    }

    private static void failsAside() {
        Due.sentence(24, "DAYS by which one of these fails to be ADDED aside: s itself, t behind s, s behind t");
        // from 29 January on s fails by STRICT, or s behind t: the 28th of February is the first that neither does
        fails(of(1, 0, 0), of(0, 1, 0), 0, STRICT, Due.day(2023, 1, 28), Due.day(2023, 2, 28), instant(2023, 3, 29),
                instant(2023, 4, 1));
        failsNot(of(0, 1, 0), of(0, 1, 1), 0, CLAMP, LAST - 1, -2);
        Due.sentence(24, "aside: s TURNED");
        failsNot(of(1, -30, 0), of(0, 0, 0), 1, STRICT, LAST - 1, -2);
        fails(of(-1, 0, 0), of(0, 0, 0), 1, OVER, Due.day(2023, 3, 29), Due.day(2023, 3, 29), instant(2023, 4, 1), instant(2023, 3, 29));
        Due.sentence(24, "aside: s twice, twice s");
        failsNot(of(60000, 0, 0), of(0, 0, 0), 2, CLAMP, 0, -2);
        fails(of(59989, 0, 0), of(0, 0, 0), 2, CLAMP, 0, 28, instant(9999, 3, 28), instant(9999, 3, 29));
        fails(of(1, 0, 0), of(0, 0, 0), 2, CLAMP, Due.day(9999, 10, 1), Due.day(9999, 10, 31), instant(9999, 12, 30),
                instant(9999, 12, 31));
        failsNot(of(1, 0, 0), of(0, 0, 0), 2, CLAMP, Due.day(9999, 11, 1), -2);
        failsNot(of(1, 0, 0), of(0, 0, 0), 2, STRICT, Due.day(2023, 1, 1), -2);
        Due.sentence(24, "aside: ORDER 0, ORDER 1");
        failsNot(of(1, -31, 0), of(0, 0, 0), 3, CLAMP, Due.day(9999, 12, 1), -2);
        failsNot(of(-1, 31, 0), of(0, 0, 0), 3, CLAMP, Due.day(9999, 12, 2), -2);
    }

    private static void failsBeyond() {
        Due.sentence(24, "-9 (of twice s)");
        for (int k = 0; k < 3; k++) {
            for (int sign = -1; sign < 2; sign += 2) {
                int[] within = new int[3];
                within[k] = sign * 500000000;
                int[] beyond = new int[3];
                beyond[k] = sign * 500000001;
                failsNot(within, of(1000000000, 0, 0), 2, CLAMP, 0, -2);
                failsNot(beyond, of(0, 0, 0), 2, CLAMP, 0, -9);
                failsNot(beyond, of(0, 0, 0), 2, CLAMP, LAST, -9);
                failsNot(of(0, 0, 0), beyond, 2, CLAMP, LAST, -2);
                for (int what : of(0, 1, 3)) {
                    failsNot(beyond, of(0, 0, 0), what, CLAMP, LAST, -2);
                }
            }
        }
    }

    // ---- promise 25

    private static void happens(int[] s, int[] t, int what, int law, int times, long most, int day) {
        DateSpans x = two(s, t);
        Held held = Held.of(x).row(most, day);
        Due.same("often(" + what + ") by " + law, x.often(what, 0, 7, law), times);
        held.ends("often(" + what + ") by " + law);
    }

    private static void oftenNone() {
        Due.sentence(25, "How many of ALL STARTS fail so; .. (NONE)");
        happens(of(0, 1, 5), of(0, 3, 1), 0, CLAMP, 0, 0, -1);
        happens(of(1, 0, 0), of(0, 3, 1), 1, STRICT, 0, 0, -1);
        happens(of(0, 1, 5), of(0, 3, 1), 2, CLAMP, 0, 0, -1);
        happens(of(1, 0, 0), of(0, 3, 1), 3, CLAMP, 0, 0, -1);
        happens(of(1000000000, 0, 0), of(0, 3, 1), 0, CLAMP, 0, 0, -1);
        happens(of(0, LAST - FIRST_START + 1, 0), of(0, 3, 1), 1, CLAMP, 0, 0, -1);
    }

    private static void oftenMost() {
        Due.sentence(25, "the most SECONDS by which they differ (without a sign), the first DAY of that");
        happens(of(1, 0, 0), of(0, 0, 0), 1, CLAMP, 2703, 3 * 86400, Due.day(2001, 1, 31));
        happens(of(-1, 0, 0), of(0, 0, 0), 1, CLAMP, 2703, 3 * 86400, Due.day(2001, 3, 31));
        happens(of(1, 0, 0), of(0, 0, 0), 1, OVER, 2703, 3 * 86400, Due.day(2001, 1, 29));
        happens(of(12, 0, 0), of(0, 0, 0), 1, CLAMP, 97, 86400, Due.day(2000, 2, 29));
        happens(of(12, 0, 0), of(0, 0, 0), 1, OVER, 97, 86400, Due.day(2000, 2, 29));
        Due.sentence(25, "of ALL STARTS: one alone, the first one or the last one");
        happens(of(95988, 0, 0), of(0, 0, 0), 1, CLAMP, 1, 86400, Due.day(2000, 2, 29));
        happens(of(-28786, 0, 0), of(0, 0, 0), 1, CLAMP, 3, 3 * 86400, LAST_START);
        happens(of(-28786, 0, 0), of(0, 0, 0), 1, STRICT, 0, 0, -1);
    }

    private static void oftenNot(int[] s, int[] t, int what, int due) {
        DateSpans x = two(s, t);
        Held held = Held.of(x);
        Due.same("often(" + what + ")", x.often(what, 0, 7, CLAMP), due);
        held.ends("often(" + what + ")");
    }

    private static void oftenBeyond() {
        Due.sentence(25, "-9, NONE likewise");
        for (int k = 0; k < 3; k++) {
            for (int sign = -1; sign < 2; sign += 2) {
                int[] within = new int[3];
                within[k] = sign * 500000000;
                int[] beyond = new int[3];
                beyond[k] = sign * 500000001;
                happens(within, of(1000000000, 0, 0), 2, CLAMP, 0, 0, -1);
                oftenNot(beyond, of(0, 0, 0), 2, -9);
                happens(of(0, 0, 0), beyond, 2, CLAMP, 0, 0, -1);
                for (int what : of(0, 1, 3)) {
                    happens(beyond, of(0, 0, 0), what, CLAMP, 0, 0, -1);
                }
                oftenNot(within, of(0, 0, 0), 4, -1);
                oftenNot(beyond, of(0, 0, 0), -1, -1);
            }
        }
    }

    /** Both instants of a law of order from a day on by its very words, or null if one is not there. */
    private static long[] both(int what, int[] s, int[] t, int law, int day) {
        long start = day * 86400L;
        Long one = led(start, s, 1, law, 0);
        Long left = one;
        Long right = start;
        switch (what) {
            case 0:
                left = one == null ? null : led(one, t, 1, law, 0);
                Long two = led(start, t, 1, law, 0);
                right = two == null ? null : led(two, s, 1, law, 0);
                break;
            case 1:
                left = one == null ? null : led(one, s, -1, law, 0);
                break;
            case 2:
                left = one == null ? null : led(one, s, 1, law, 0);
                right = led(start, s, 2, law, 0);
                break;
            default:
                right = led(start, s, 1, law, 1);
                break;
        }
        return left == null || right == null ? null : new long[] {left, right};
    }

    private static void oftenAll() {
        Due.sentence(25, "How many of ALL STARTS fail so: what 0 .. 3 by each LAW");
        int[][][] all = {{{1, 1, 0}, {2, -1, 0}}, {{95980, 20, 0}, {-24020, -3, 86400}}};
        for (int[][] a : all) {
            for (int k = 0; k < 16; k++) {
                int times = 0;
                long most = 0;
                int mostDay = -1;
                for (int day = FIRST_START; day <= LAST_START; day++) {
                    long[] both = both(k / 4, a[0], a[1], k % 4, day);
                    if (both != null && both[0] != both[1]) {
                        times++;
                        long by = Math.abs(both[0] - both[1]);
                        mostDay = by > most ? day : mostDay;
                        most = Math.max(most, by);
                    }
                }
                happens(a[0], a[1], k / 4, k % 4, times, most, mostDay);
            }
        }
    }
}
