import java.time.LocalDate;

/** Stretches, anniversaries, months and parts, sentence by sentence: promises 33 to 40, each boundary on both sides. */
public final class TurnEdgesTest {
    private static final int LAST = 3652058;

    private TurnEdgesTest() {
    }

    public static void main(String[] args) {
        overlaps();
        overlapsAll();
        leaps();
        leapsRound();
        again();
        againNone();
        whole();
        wholeAll();
        floors();
        floorsEdges();
        part();
        partRefused();
        mean();
        meanSlots();
        sorts();
        sortsHold();
        Due.ends("TurnEdgesTest");
    }

    private static DateSpans two(int day, int second, int other, int otherSecond) {
        DateSpans x = Held.filled();
        x.sets(1, day, second);
        x.sets(7, other, otherSecond);
        return x;
    }

    private static int[] of(int... numbers) {
        return numbers;
    }

    // ---- promise 33

    private static DateSpans four(int a, int b, int c, int d) {
        DateSpans x = Held.filled();
        int[] all = {a, b, c, d};
        for (int k = 0; k < 4; k++) {
            x.sets(k, all[k] / 86400, all[k] % 86400);
        }
        return x;
    }

    private static void common(int a, int b, int c, int d, int seconds, int begins, int apart) {
        int[][] ways = {{a, b, c, d}, {b, a, c, d}, {a, b, d, c}, {b, a, d, c}, {c, d, a, b}, {d, c, b, a}};
        for (int[] w : ways) {
            DateSpans x = four(w[0], w[1], w[2], w[3]);
            Held held = Held.of(x).row(begins, apart);
            String call = "overlaps of " + java.util.Arrays.toString(w);
            Due.same(call, x.overlaps(0, 1, 2, 3), seconds);
            held.ends(call);
        }
    }

    private static void overlaps() {
        Due.sentence(33, "How many SECONDS the stretches .. (either way round) have in common");
        common(100, 200, 199, 300, 1, 199, 0);
        common(100, 200, 150, 160, 10, 150, 0);
        common(100, 200, 100, 200, 100, 100, 0);
        Due.sentence(33, "SECONDS between them (0: they touch, or have something in common)");
        common(100, 200, 200, 300, 0, 200, 0);
        common(100, 200, 201, 300, 0, 201, 1);
        common(100, 200, 1000, 3000, 0, 1000, 800);
        common(100, 100, 100, 100, 0, 100, 0);
        common(100, 100, 101, 101, 0, 101, 1);
        common(100, 300, 200, 200, 0, 200, 0);
        Due.sentence(33, "the INSTANT at which the later one of both begins");
        common(0, 0, 0, 0, 0, 0, 0);
        common(86399, 86401, 86400, 90000, 1, 86400, 0);
        DateSpans x = two(0, 0, LAST, 86399);
        Due.same("overlaps of all", x.overlaps(1, 7, 7, 1), 315537897599L);
        Due.row(x, 0, 0);
        Due.same("overlaps of the ends", x.overlaps(1, 1, 7, 7), 0);
        Due.row(x, 315537897599L, 315537897599L);
    }

    private static void overlapsAll() {
        Due.sentence(33, "have in common, SECONDS between them: second by second");
        for (int k = 0; k < 625; k++) {
            int[] p = {k % 5, k / 5 % 5, k / 25 % 5, k / 125};
            int low = Math.min(p[0], p[1]);
            int high = Math.max(p[0], p[1]);
            int otherLow = Math.min(p[2], p[3]);
            int otherHigh = Math.max(p[2], p[3]);
            int both = 0;
            int apart = 0;
            for (int second = 0; second < 5; second++) {
                both += second >= low && second < high && second >= otherLow && second < otherHigh ? 1 : 0;
                apart += second >= high && second < otherLow || second >= otherHigh && second < low ? 1 : 0;
            }
            DateSpans x = new DateSpans();
            for (int i = 0; i < 4; i++) {
                x.sets(i, 3, p[i]);
            }
            Due.same("overlaps " + k, x.overlaps(0, 1, 2, 3), both);
            Due.row(x, 3 * 86400 + Math.max(low, otherLow), apart);
        }
    }

    // ---- promise 34

    private static void leapDays(int from, int to, int many, int first, int last) {
        for (int way = 0; way < 2; way++) {
            DateSpans x = way == 0 ? two(from, 86399, to, 0) : two(to, 0, from, 86399);
            Held held = Held.of(x).row(first, last);
            Due.same("leaps " + from + ", " + to, x.leaps(1, 7), many);
            held.ends("leaps " + from + ", " + to);
        }
    }

    private static void leaps() {
        int leap = Due.day(2024, 2, 29);
        Due.sentence(34, "How many 29ths of February are from the DAY of MOMENT a on to that of b (both, too; either way round)");
        leapDays(leap, leap, 1, leap, leap);
        leapDays(leap - 1, leap, 1, leap, leap);
        leapDays(leap, leap + 1, 1, leap, leap);
        leapDays(leap - 1, leap - 1, 0, -1, -1);
        leapDays(leap + 1, leap + 1, 0, -1, -1);
        leapDays(leap - 100, leap - 1, 0, -1, -1);
        leapDays(leap + 1, leap + 100, 0, -1, -1);
        Due.sentence(34, "the first, the last of these DAYS (NONE)");
        int next = Due.day(2028, 2, 29);
        leapDays(leap, next, 2, leap, next);
        leapDays(leap + 1, next, 1, next, next);
        leapDays(leap, next - 1, 1, leap, leap);
        leapDays(leap + 1, next - 1, 0, -1, -1);
        leapDays(0, LAST, 2424, Due.day(4, 2, 29), Due.day(9996, 2, 29));
    }

    private static void leapsRound() {
        Due.sentence(34, "29ths of February: years that 100 divides");
        leapDays(Due.day(1896, 3, 1), Due.day(1904, 2, 28), 0, -1, -1);
        leapDays(Due.day(1900, 1, 1), Due.day(1900, 12, 31), 0, -1, -1);
        leapDays(Due.day(2000, 1, 1), Due.day(2000, 12, 31), 1, Due.day(2000, 2, 29), Due.day(2000, 2, 29));
        for (int year = 4; year <= 9999; year++) {
            if (LocalDate.of(year, 1, 1).isLeapYear()) {
                DateSpans x = new DateSpans();
                int leap = Due.day(year, 2, 29);
                x.sets(1, Due.day(year, 1, 1), 0);
                x.sets(7, Due.day(year, 12, 31), 0);
                Due.same("leaps in " + year, x.leaps(1, 7), 1);
                Due.row(x, leap, leap);
            }
        }
        leapDays(0, Due.day(4, 2, 28), 0, -1, -1);
        leapDays(Due.day(9996, 3, 1), LAST, 0, -1, -1);
        leapDays(LAST, LAST, 0, -1, -1);
        leapDays(0, 0, 0, -1, -1);
    }

    // ---- promise 35

    private static void comesAgain(int day, int n, int to, int year) {
        DateSpans x = two(day, 5, 0, 0);
        Held held = Held.of(x).row(year);
        Due.same("again from " + day + ", " + n, x.again(1, n), to);
        held.ends("again from " + day + ", " + n);
    }

    private static void comesNot(int day, int n, int due) {
        DateSpans x = two(day, 5, 0, 0);
        Held held = Held.of(x);
        Due.same("again from " + day + ", " + n, x.again(1, n), due);
        held.ends("again from " + day + ", " + n);
    }

    private static void again() {
        Due.sentence(35, "The n-th (1 .. 100) DAY behind that of MOMENT i that has its month and day of the month");
        comesAgain(Due.day(2023, 5, 10), 1, Due.day(2024, 5, 10), 2024);
        comesAgain(Due.day(2023, 5, 10), 100, Due.day(2123, 5, 10), 2123);
        comesNot(Due.day(2023, 5, 10), 0, -1);
        comesNot(Due.day(2023, 5, 10), 101, -1);
        comesAgain(Due.day(2023, 2, 28), 1, Due.day(2024, 2, 28), 2024);
        comesAgain(Due.day(2023, 12, 31), 1, Due.day(2024, 12, 31), 2024);
        comesAgain(0, 1, 365, 2);
        Due.sentence(35, "that has its month and day: a 29th of February");
        comesAgain(Due.day(2024, 2, 29), 1, Due.day(2028, 2, 29), 2028);
        comesAgain(Due.day(1896, 2, 29), 1, Due.day(1904, 2, 29), 1904);
        comesAgain(Due.day(1996, 2, 29), 1, Due.day(2000, 2, 29), 2000);
        comesAgain(Due.day(2096, 2, 29), 2, Due.day(2108, 2, 29), 2108);
        comesAgain(Due.day(2000, 2, 29), 97, Due.day(2400, 2, 29), 2400);
        comesAgain(Due.day(2000, 2, 29), 100, Due.day(2412, 2, 29), 2412);
    }

    private static void againNone() {
        Due.sentence(35, "-2: there is none");
        comesAgain(Due.day(9998, 12, 31), 1, LAST, 9999);
        comesNot(Due.day(9999, 1, 1), 1, -2);
        comesNot(LAST, 1, -2);
        comesAgain(Due.day(9998, 1, 1), 1, Due.day(9999, 1, 1), 9999);
        comesNot(Due.day(9998, 1, 1), 2, -2);
        comesAgain(Due.day(9992, 2, 29), 1, Due.day(9996, 2, 29), 9996);
        comesNot(Due.day(9992, 2, 29), 2, -2);
        comesNot(Due.day(9996, 2, 29), 1, -2);
        comesAgain(Due.day(9899, 6, 6), 100, Due.day(9999, 6, 6), 9999);
        comesNot(Due.day(9900, 6, 6), 100, -2);
        Due.sentence(35, "NONE: another n, too: ahead of -2");
        comesNot(LAST, 0, -1);
        comesNot(LAST, 101, -1);
    }

    // ---- promise 36

    private static void wholes(int from, int to, int many, int ahead, int behind) {
        for (int way = 0; way < 2; way++) {
            DateSpans x = way == 0 ? two(from, 86399, to, 0) : two(to, 0, from, 86399);
            Held held = Held.of(x).row(ahead, behind);
            Due.same("whole " + from + ", " + to, x.whole(1, 7), many);
            held.ends("whole " + from + ", " + to);
        }
    }

    private static void whole() {
        int first = Due.day(2023, 4, 1);
        int next = Due.day(2023, 5, 1);
        Due.sentence(36, "Whole months, from their first day to their last one, within .. up to that of b, b aside");
        wholes(first, next, 1, 0, 0);
        wholes(first, next - 1, 0, 29, 0);
        wholes(first + 1, next, 0, 29, 0);
        wholes(first - 1, next, 1, 1, 0);
        wholes(first, next + 1, 1, 0, 1);
        wholes(first - 1, next - 1, 0, 30, 0);
        wholes(first - 30, next + 29, 1, 30, 29);
        Due.sentence(36, "DAYS ahead of the first of them, DAYS behind the last one (all of them, 0, if there is none)");
        wholes(first, first, 0, 0, 0);
        wholes(first + 5, first + 5, 0, 0, 0);
        wholes(first + 5, next, 0, 25, 0);
        wholes(first + 5, next + 5, 0, 30, 0);
        wholes(first + 5, next + 30, 0, 55, 0);
        wholes(first + 5, next + 31, 1, 25, 0);
        wholes(0, LAST, 119987, 0, 30);
        wholes(1, LAST, 119986, 30, 30);
        wholes(LAST - 30, LAST, 0, 30, 0);
        wholes(0, 31, 1, 0, 0);
        wholes(0, 30, 0, 30, 0);
        wholes(Due.day(2023, 1, 1), Due.day(2024, 1, 1), 12, 0, 0);
        wholes(Due.day(2024, 2, 1), Due.day(2024, 3, 1), 1, 0, 0);
        wholes(Due.day(2024, 2, 1), Due.day(2024, 2, 29), 0, 28, 0);
    }

    private static void wholeAll() {
        Due.sentence(36, "Whole months: counted month by month");
        for (int from = Due.day(2023, 1, 25); from < Due.day(2023, 3, 5); from += 2) {
            for (int to = from; to < from + 100; to += 3) {
                int many = 0;
                int ahead = to - from;
                int behind = 0;
                for (int month = 1; month < 8; month++) {
                    int first = Due.day(2023, month, 1);
                    int next = Due.day(2023, month + 1, 1);
                    if (first >= from && next <= to) {
                        ahead = many == 0 ? first - from : ahead;
                        behind = to - next;
                        many++;
                    }
                }
                wholes(from, to, many, ahead, behind);
            }
        }
    }

    // ---- promise 37

    private static void cut(int day, int second, int what, int to, int toSecond) {
        DateSpans x = two(day, second, 5, 5);
        Held held = Held.of(x).moment(7, to, toSecond).row(toSecond, (day - to) * 86400L + second - toSecond);
        Due.same("floors of " + day + ", " + second + " to " + what, x.floors(1, what, 7), to);
        held.ends("floors of " + day + ", " + second + " to " + what);
    }

    private static void floors() {
        int day = Due.day(2024, 2, 29);
        Due.sentence(37, "0 its minute, 1 its hour, 2 its day, 3 its week (Monday), 4 its month, 5 its year");
        cut(day, 45005, 0, day, 45000);
        cut(day, 45005, 1, day, 43200);
        cut(day, 45005, 2, day, 0);
        cut(day, 45005, 3, Due.day(2024, 2, 26), 0);
        cut(day, 45005, 4, Due.day(2024, 2, 1), 0);
        cut(day, 45005, 5, Due.day(2024, 1, 1), 0);
        Due.sentence(37, "NONE: another what, too");
        for (int what : of(-1, 6)) {
            DateSpans x = two(day, 45005, 5, 5);
            Held held = Held.of(x);
            Due.same("floors to " + what, x.floors(1, what, 7), -1);
            held.ends("floors to " + what);
        }
        Due.sentence(37, "comes to SLOT to: every one of them, its own too");
        for (int to = 0; to < 8; to++) {
            DateSpans x = two(day, 45005, 5, 5);
            Held held = Held.of(x).moment(to, day, 45000).row(45000, 5);
            Due.same("floors to SLOT " + to, x.floors(1, 0, to), day);
            held.ends("floors to SLOT " + to);
        }
    }

    private static void floorsEdges() {
        int monday = Due.day(2024, 1, 1);
        Due.sentence(37, "cut down to the beginning: at it, behind it, at the end");
        for (int second : of(0, 1, 59)) {
            cut(monday, 3600 + second, 0, monday, 3600);
        }
        cut(monday, 3660, 0, monday, 3660);
        for (int second : of(0, 1, 3599)) {
            cut(monday, 3600 + second, 1, monday, 3600);
        }
        cut(monday, 7200, 1, monday, 7200);
        for (int second : of(0, 1, 86399)) {
            cut(monday, second, 2, monday, 0);
            cut(monday, second, 3, monday, 0);
            cut(monday, second, 4, monday, 0);
            cut(monday, second, 5, monday, 0);
            cut(monday + 6, second, 3, monday, 0);
            cut(monday + 7, second, 3, monday + 7, 0);
            cut(monday - 1, second, 3, monday - 7, 0);
            cut(monday + 30, second, 4, monday, 0);
            cut(monday + 31, second, 4, monday + 31, 0);
            cut(monday - 1, second, 4, Due.day(2023, 12, 1), 0);
            cut(monday + 365, second, 5, monday, 0);
            cut(monday + 366, second, 5, monday + 366, 0);
            cut(monday - 1, second, 5, Due.day(2023, 1, 1), 0);
        }
        for (int what = 0; what < 6; what++) {
            cut(0, 0, what, 0, 0);
        }
        for (int what = 2; what < 6; what++) {
            cut(6, 86399, what, what == 2 ? 6 : 0, 0);
        }
        cut(LAST, 86399, 3, LAST - 4, 0);
        cut(LAST, 86399, 4, LAST - 30, 0);
        cut(LAST, 86399, 5, LAST - 364, 0);
    }

    // ---- promise 38

    private static void parted(DateSpans x, int a, int b, int k, int n, int day, int second) {
        Held held = Held.of(x).moment(5, day, second).row(second);
        Due.same("part " + k + " of " + n, x.part(a, b, k, n, 5), day);
        held.ends("part " + k + " of " + n);
    }

    private static void part() {
        Due.sentence(38, "k (0 .. n) n-ths (n 1 .. 1000) of what is from it to that of b");
        parted(two(100, 7, 200, 7), 1, 7, 0, 1, 100, 7);
        parted(two(100, 7, 200, 7), 1, 7, 1, 1, 200, 7);
        parted(two(100, 7, 200, 7), 1, 7, 0, 1000, 100, 7);
        parted(two(100, 7, 200, 7), 1, 7, 1000, 1000, 200, 7);
        parted(two(100, 7, 200, 7), 1, 7, 1, 2, 150, 7);
        parted(two(100, 7, 200, 7), 7, 1, 1, 4, 175, 7);
        parted(two(100, 7, 200, 7), 1, 1, 3, 7, 100, 7);
        Due.sentence(38, "(times k, by n, cut towards 0)");
        parted(two(100, 0, 100, 10), 1, 7, 1, 3, 100, 3);
        parted(two(100, 0, 100, 10), 1, 7, 2, 3, 100, 6);
        parted(two(100, 0, 100, 10), 7, 1, 1, 3, 100, 7);
        parted(two(100, 0, 100, 10), 7, 1, 2, 3, 100, 4);
        parted(two(100, 0, 100, 1), 1, 7, 999, 1000, 100, 0);
        parted(two(100, 0, 100, 1), 7, 1, 999, 1000, 100, 1);
        parted(two(100, 0, 100, 1), 7, 1, 1000, 1000, 100, 0);
        parted(two(100, 0, 99, 86399), 1, 7, 1, 2, 100, 0);
        parted(two(100, 0, 99, 86398), 1, 7, 1, 2, 99, 86399);
        Due.sentence(38, "the INSTANT: from the first MOMENT to the last one");
        parted(two(0, 0, LAST, 86399), 1, 7, 1000, 1000, LAST, 86399);
        parted(two(0, 0, LAST, 86399), 7, 1, 1000, 1000, 0, 0);
        long most = LAST * 86400L + 86399;
        for (int k : of(1, 499, 500, 999)) {
            long at = most * k / 1000;
            parted(two(0, 0, LAST, 86399), 1, 7, k, 1000, (int) (at / 86400), (int) (at % 86400));
            parted(two(0, 0, LAST, 86399), 7, 1, k, 1000, (int) ((most - at) / 86400), (int) ((most - at) % 86400));
        }
    }

    private static void partRefused() {
        Due.sentence(38, "NONE: others");
        int[][] wrong = {{-1, 5}, {6, 5}, {0, 0}, {1, 0}, {-1, -1}, {0, -1}, {1, 1001}, {0, 1001}, {1001, 1001},
            {Integer.MIN_VALUE, 5}, {Integer.MAX_VALUE, 5}, {1, Integer.MIN_VALUE}, {1, Integer.MAX_VALUE}};
        for (int[] w : wrong) {
            DateSpans x = two(100, 7, 200, 7);
            Held held = Held.of(x);
            Due.same("part " + w[0] + " of " + w[1], x.part(1, 7, w[0], w[1], 5), -1);
            held.ends("part " + w[0] + " of " + w[1]);
        }
        Due.sentence(38, "comes to SLOT to: every one of them");
        for (int to = 0; to < 8; to++) {
            DateSpans x = two(100, 7, 200, 7);
            Held held = Held.of(x).moment(to, 150, 7).row(7);
            Due.same("part to SLOT " + to, x.part(1, 7, 1, 2, to), 150);
            held.ends("part to SLOT " + to);
        }
    }

    // ---- promise 39

    private static void meant(DateSpans x, int slots, int day, long... row) {
        Held held = Held.of(x).row(row);
        Due.same("mean " + slots, x.mean(slots), day);
        held.still("mean " + slots);
    }

    private static void mean() {
        Due.sentence(39, "the DAY of the mean of their INSTANTS, cut; the ROW: its SECOND");
        meant(two(10, 0, 10, 1), 2 + 128, 10, 0, 1, 7);
        meant(two(10, 0, 10, 2), 2 + 128, 10, 1, 1, 7);
        meant(two(10, 0, 10, 3), 2 + 128, 10, 1, 1, 7);
        meant(two(10, 86399, 11, 0), 2 + 128, 10, 86399, 1, 7);
        meant(two(10, 86399, 11, 1), 2 + 128, 11, 0, 1, 7);
        meant(two(0, 0, LAST, 86399), 2 + 128, LAST / 2, 43199, 1, 7);
        meant(two(LAST, 86399, LAST, 86399), 2 + 128, LAST, 86399, 1, 1);
        Due.sentence(39, "the SLOT of the earliest, of the latest (of equal ones the first)");
        meant(two(11, 0, 10, 0), 2 + 128, 10, 43200, 7, 1);
        meant(two(10, 5, 10, 5), 2 + 128, 10, 5, 1, 1);
        DateSpans x = Held.filledWith(9, 9, 0, 0, 0);
        x.sets(2, 8, 9);
        x.sets(4, 10, 9);
        meant(x, 255, 9, 9, 2, 4);
        x.sets(5, 8, 9);
        x.sets(6, 10, 9);
        meant(x, 255, 9, 9, 2, 4);
        x = Held.filledWith(9, 9, 0, 0, 0);
        meant(x, 255, 9, 9, 0, 0);
        meant(x, 254, 9, 9, 1, 1);
        meant(x, 192, 9, 9, 6, 6);
    }

    private static void meanSlots() {
        Due.sentence(39, "MOMENTS of SLOTS (bits, 1 .. 255)");
        for (int slots = 1; slots <= 255; slots++) {
            DateSpans x = new DateSpans();
            long together = 0;
            int first = -1;
            int last = -1;
            for (int i = 0; i < 8; i++) {
                x.sets(i, 1000 + i * i, 86399 - i);
                if ((slots >> i & 1) == 1) {
                    together += (1000 + i * i) * 86400L + 86399 - i;
                    first = first < 0 ? i : first;
                    last = i;
                }
            }
            long mean = together / Integer.bitCount(slots);
            Due.same("mean " + slots, x.mean(slots), mean / 86400);
            Due.row(x, mean % 86400, first, last);
        }
        Due.sentence(39, "NONE: no such bits");
        for (int slots : of(0, 256, -1, 257, 511, Integer.MIN_VALUE, Integer.MAX_VALUE)) {
            DateSpans x = Held.filled();
            Held held = Held.of(x);
            Due.same("mean " + slots, x.mean(slots), -1);
            held.ends("mean " + slots);
        }
    }

    // ---- promise 40

    private static void sorts() {
        Due.sentence(40, "The eight SLOTS by INSTANTS, the earliest first, of equal ones the lesser number");
        sorted(of(0, 0, 0, 0, 0, 0, 0, 0), 0, 1, 2, 3, 4, 5, 6, 7);
        sorted(of(7, 6, 5, 4, 3, 2, 1, 0), 7, 6, 5, 4, 3, 2, 1, 0);
        sorted(of(0, 1, 2, 3, 4, 5, 6, 7), 0, 1, 2, 3, 4, 5, 6, 7);
        sorted(of(5, 5, 3, 3, 5, 3, 4, 4), 2, 3, 5, 6, 7, 0, 1, 4);
        sorted(of(1, 0, 1, 0, 1, 0, 1, 0), 1, 3, 5, 7, 0, 2, 4, 6);
        sorted(of(86400, 86399, 86401, 0, 172800, 86399, 86400, 1), 3, 7, 1, 5, 0, 6, 2, 4);
    }

    private static void sorted(int[] instants, long... row) {
        DateSpans x = new DateSpans();
        for (int i = 0; i < 8; i++) {
            x.sets(i, instants[i] / 86400, instants[i] % 86400);
        }
        Held held = Held.of(x).row(row);
        Due.same("sorts()", x.sorts(), row[0]);
        held.still("sorts()");
    }

    private static void sortsHold() {
        Due.sentence(40, "the first one; the ROW: all");
        DateSpans x = Held.filled();
        x.sets(6, 0, 0);
        x.sets(2, LAST, 86399);
        Held held = Held.of(x).row(6, 0, 3, 1, 4, 7, 5, 2);
        Due.same("sorts()", x.sorts(), 6);
        held.ends("sorts()");
    }
}
