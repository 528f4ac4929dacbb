/** Promises 41 to 50: shares; what is written, kept and counted. */
public final class SharesTest {
    private static final int LAST_DAY = 3652058;
    private static final int LEAP_DAY = 738944;

    private SharesTest() {
    }

    public static void main(String[] args) {
        share();
        ranks();
        rest();
        years();
        written();
        phrase();
        phraseRefused();
        keeps();
        back();
        count();
        row();
        Due.ends("SharesTest");
    }

    private static DateSpans two(int months, int days, int seconds, int more, int moreDays, int moreSeconds) {
        DateSpans x = new DateSpans();
        x.parts(0, months, days, seconds);
        x.parts(7, more, moreDays, moreSeconds);
        x.week(0);
        return x;
    }

    private static void share() {
        Due.promise(41, "share");
        DateSpans x = two(1, 0, 0, 1, 0, 0);
        Due.same("1", x.share(0, 7), 0x3ff0000000000000L);
        x = two(0, 0, 1, 0, 0, -2);
        Due.same("-0.5", x.share(0, 7), 0xbfe0000000000000L);
        Due.same("-2", x.share(7, 0), 0xc000000000000000L);
        x = two(0, 0, 1, 0, 0, 3);
        Due.same("1 / 3", x.share(0, 7), 0x3fd5555555555555L);
        Due.same("3", x.share(7, 0), 0x4008000000000000L);
        x = two(0, 0, 10, 0, 0, 3);
        Due.same("10 / 3", x.share(0, 7), 0x400aaaaaaaaaaaabL);
        x = two(1, 1, 1, 0, 0, 1);
        Due.same("2716147", x.share(0, 7), 0x4144b8f980000000L);
        // nothing by something, something by nothing, nothing by nothing
        x = two(0, 0, 0, 0, 0, -5);
        Due.same("-0", x.share(0, 7), 0x8000000000000000L);
        Due.same("-infinite", x.share(7, 0), 0xfff0000000000000L);
        Due.same("none", x.share(0, 0), 0x7ff8000000000000L);
        x = two(0, 0, 0, 0, 0, 5);
        Due.same("0", x.share(0, 7), 0);
        Due.same("infinite", x.share(7, 0), 0x7ff0000000000000L);
        x = two(0, 1, -86400, 0, 0, 5);
        Due.same("0", x.share(0, 7), 0);
        int most = 1000000000;
        int[][] spans = {{most, most, most}, {-most, -most, -most}, {0, 0, 1}, {0, 0, -1}, {7, -3, 86399},
            {-12, 365, 20000}, {most, -most, 7}, {0, 7, 0}, {1, -30, -37746}, {0, 0, 0}};
        for (int[] s : spans) {
            for (int[] t : spans) {
                x = two(s[0], s[1], s[2], t[0], t[1], t[2]);
                double one = 2629746.0 * s[0] + 86400.0 * s[1] + s[2];
                double other = 2629746.0 * t[0] + 86400.0 * t[1] + t[2];
                Due.promise(41, "share");
                Due.same("share", x.share(0, 7), Double.doubleToLongBits(one / other));
                Due.promise(43, "rest");
                Due.same("rest", x.rest(0, 7), Double.doubleToLongBits(one % other));
                Due.promise(44, "years");
                Due.same("years", x.years(0), Float.floatToIntBits((float) (one / 31556952.0)));
            }
        }
        Due.promise(41, "share");
        for (int slot = -1; slot < 9; slot += 9) {
            Due.same("no slot", x.share(slot, 0), -1);
            Due.same("no slot", x.share(0, slot), -1);
        }
        Due.row(x, 1);
    }

    private static void ranks() {
        Due.promise(42, "ranks");
        DateSpans x = new DateSpans();
        Due.same("ranks", x.ranks(), 0);
        Due.row(x, 0, 1, 2, 3, 4, 5, 6, 7);
        int[][] all = {{1, 0, 0}, {0, 30, 37746}, {0, 30, 37745}, {0, 0, -1}, {-1, 31, 0}, {0, 0, 0}, {0, 0, -1},
            {1000000000, 0, 0}};
        for (int s = 0; s < 8; s++) {
            x.parts(s, all[s][0], all[s][1], all[s][2]);
        }
        Due.same("ranks", x.ranks(), 3);
        Due.row(x, 3, 6, 5, 4, 2, 0, 1, 7);
        x.parts(7, -1000000000, 1000000000, 0);
        Due.same("ranks", x.ranks(), 7);
        Due.row(x, 7, 3, 6, 5, 4, 2, 0, 1);
    }

    private static void rest() {
        Due.promise(43, "rest");
        DateSpans x = two(0, 0, 10, 0, 0, 3);
        Due.same("1", x.rest(0, 7), 0x3ff0000000000000L);
        Due.same("3", x.rest(7, 0), 0x4008000000000000L);
        x = two(0, 0, -10, 0, 0, 3);
        Due.same("-1", x.rest(0, 7), 0xbff0000000000000L);
        Due.same("3", x.rest(7, 0), 0x4008000000000000L);
        x = two(0, 0, -9, 0, 0, 3);
        Due.same("-0", x.rest(0, 7), 0x8000000000000000L);
        x = two(0, 0, 9, 0, 0, -3);
        Due.same("0", x.rest(0, 7), 0);
        x = two(0, 0, 0, 0, 0, -3);
        Due.same("0", x.rest(0, 7), 0);
        Due.same("none", x.rest(7, 0), 0x7ff8000000000000L);
        Due.same("none", x.rest(0, 0), 0x7ff8000000000000L);
        x = two(1, 0, 0, 0, 1, 0);
        Due.same("37746", x.rest(0, 7), 0x40e26e4000000000L);
        for (int slot = -1; slot < 9; slot += 9) {
            Due.same("no slot", x.rest(slot, 0), -1);
            Due.same("no slot", x.rest(0, slot), -1);
        }
        Due.row(x, 1);
    }

    private static void years() {
        Due.promise(44, "years");
        DateSpans x = two(12, 0, 0, -6, 0, 0);
        Due.same("1", x.years(0), 0x3f800000);
        Due.same("-0.5", x.years(7), 0xbf000000);
        Due.same("0", x.years(1), 0);
        x = two(0, 0, 1, 0, 0, -1);
        Due.same("a second", x.years(0), Float.floatToIntBits((float) (1 / 31556952.0)));
        Due.same("a second", x.years(7), Float.floatToIntBits((float) (-1 / 31556952.0)));
        x = two(1000000000, 0, 0, 4, 0, 0);
        Due.same("83333333.3", x.years(0), 0x4c9ef21b);
        Due.same("1 / 3", x.years(7), 0x3eaaaaab);
        Due.same("no slot", x.years(8), -1);
        Due.same("no slot", x.years(-1), -1);
        Due.row(x, 1);
    }

    private static String said(DateSpans x, int i, boolean span) {
        int many = span ? x.phrase(i, -1) : x.written(i, -1);
        StringBuilder text = new StringBuilder();
        for (int k = 0; k < many; k++) {
            text.append((char) (span ? x.phrase(i, k) : x.written(i, k)));
        }
        Due.same("behind the last sign", span ? x.phrase(i, many) : x.written(i, many), -1);
        Due.same("ahead of NONE", span ? x.phrase(i, -2) : x.written(i, -2), -1);
        Due.same("far behind", span ? x.phrase(i, Integer.MAX_VALUE) : x.written(i, Integer.MAX_VALUE), -1);
        return text.toString();
    }

    private static void writes(int day, int second, String due) {
        DateSpans x = new DateSpans();
        x.sets(3, day, second);
        x.sign(0x31793264);
        String text = said(x, 3, false);
        Due.yes("written " + text + " for " + due, text.equals(due));
        Due.same("count(3)", x.count(3), 4);
        Due.type(x, text);
        Due.same("read again", x.moment(0), day);
        Due.moment(x, 0, day, second);
        Due.row(x);
    }

    private static void written() {
        Due.promise(45, "written");
        writes(LEAP_DAY, 45005, "2024-02-29T12:30:05");
        writes(LEAP_DAY, 0, "2024-02-29");
        writes(0, 0, "0001-01-01");
        writes(0, 1, "0001-01-01T00:00:01");
        writes(LAST_DAY, 86399, "9999-12-31T23:59:59");
        writes(36524, 3600, "0101-01-01T01:00:00");
        writes(730178, 60, "2000-02-29T00:01:00");
        DateSpans x = new DateSpans();
        for (int k = -1; k < 2; k++) {
            Due.same("no slot", x.written(8, k), -1);
            Due.same("no slot", x.written(-1, k), -1);
        }
    }

    private static void says(int months, int days, int seconds, String due) {
        DateSpans x = new DateSpans();
        x.parts(3, months, days, seconds);
        x.sign(0x31793264);
        String text = said(x, 3, true);
        Due.yes("phrase " + text + " for " + due, text.equals(due));
        Due.same("count(3)", x.count(3), 4);
        Due.row(x);
        Due.type(x, text);
        Due.same("read again", x.span(0), months);
        Due.span(x, 0, months, days, seconds);
    }

    private static void phrase() {
        Due.promise(46, "phrase");
        says(10, 3, 14400, "10m3d4h");
        says(0, 0, 0, "0s");
        says(14, 25, 18367, "1y2m3w4d5h6i7s");
        says(-14, -25, -18367, "-1y-2m-3w-4d-5h-6i-7s");
        says(12, 7, 3600, "1y1w1h");
        says(-11, 6, -59, "-11m6d-59s");
        says(0, -1, 60, "-1d1i");
        says(1199999, 699999, 359999999, "99999y11m99999w6d99999h59i59s");
        says(-1199999, -699999, -359999999, "-99999y-11m-99999w-6d-99999h-59i-59s");
        says(12 * 10000, 70, 3600 * 1009, "10000y10w1009h");
        says(0, 0, 3599, "59i59s");
    }

    private static void phraseRefused() {
        Due.promise(46, "phrase, refused");
        int[][] great = {{1200000, 0, 0}, {-1200000, 0, 0}, {0, 700000, 0}, {0, -700000, 0}, {0, 0, 360000000},
            {0, 0, -360000000}, {1000000000, 1, 1}, {1, 1, 999999999}};
        for (int[] s : great) {
            DateSpans x = new DateSpans();
            x.parts(3, s[0], s[1], s[2]);
            Due.same("too great", x.phrase(3, -1), -2);
            Due.same("too great", x.phrase(3, 0), -2);
            Due.same("too great", x.phrase(3, 90), -2);
            Due.same("no such sign", x.phrase(3, -2), -1);
            Due.same("no such sign", x.phrase(3, Integer.MIN_VALUE), -1);
        }
        DateSpans x = new DateSpans();
        for (int k = -1; k < 2; k++) {
            Due.same("no slot", x.phrase(8, k), -1);
            Due.same("no slot", x.phrase(-1, k), -1);
        }
    }

    private static void keeps() {
        Due.promise(47, "keeps");
        DateSpans x = new DateSpans();
        Held.fill(x, 1);
        x.week(0);
        x.sign(0x31793264);
        Due.yes("keeps()", x.keeps());
        Held.isFilled(x, 1);
        Held.fill(x, 2);
        Held.isFilled(x, 2);
        Due.yes("back()", x.back());
        Held.isFilled(x, 1);
        Held.fill(x, 3);
        Due.yes("keeps() in place of what was", x.keeps());
        Held.fill(x, 4);
        Due.yes("back()", x.back());
        Held.isFilled(x, 3);
        // the row and the text are no slots
        Due.row(x, 1);
        Due.same("count(3)", x.count(3), 4);
        x.week(730119);
        Due.yes("back()", x.back());
        Due.row(x, 1999);
    }

    private static void back() {
        Due.promise(48, "back");
        DateSpans x = new DateSpans();
        Held.fill(x, 5);
        Due.no("back() with nothing kept", x.back());
        Held.isFilled(x, 5);
        DateSpans y = new DateSpans();
        Due.yes("keeps() of nothing", y.keeps());
        Held.fill(y, 1);
        Due.yes("back()", y.back());
        Due.same("count(0)", y.count(0), 0);
        Due.same("count(1)", y.count(1), 0);
        Held.fill(y, 2);
        Due.yes("back() again", y.back());
        Due.same("count(0)", y.count(0), 0);
        Due.no("back() of another object", x.back());
    }

    private static void count() {
        Due.promise(49, "count");
        DateSpans x = new DateSpans();
        x.sets(0, 0, 1);
        x.sets(3, 1, 0);
        x.sets(7, 1, 1);
        Due.same("count(0)", x.count(0), 137);
        Due.same("count(1)", x.count(1), 0);
        x.parts(1, 1, 0, 0);
        x.parts(2, 0, -1, 0);
        x.parts(4, 0, 0, 1);
        x.parts(7, 1, 1, -1);
        Due.same("count(1)", x.count(1), 150);
        Due.same("count(0)", x.count(0), 137);
        x.sets(3, 0, 0);
        x.parts(1, 0, 0, 0);
        Due.same("count(0)", x.count(0), 129);
        Due.same("count(1)", x.count(1), 148);
        Due.same("count(2)", x.count(2), 0);
        x.workdays(0, 3);
        Due.same("count(2)", x.count(2), 7);
        x.sorts();
        Due.same("count(2)", x.count(2), 8);
        x.week(0);
        Due.same("count(2)", x.count(2), 1);
        Due.same("count(3)", x.count(3), 0);
        x.sign(0);
        Due.same("count(3)", x.count(3), 4);
        x.moment(0);
        Due.same("count(3)", x.count(3), 0);
        Due.same("another what", x.count(4), -1);
        Due.same("another what", x.count(-1), -1);
        Due.same("count(2)", x.count(2), 1);
    }

    private static void row() {
        Due.promise(50, "row");
        DateSpans x = new DateSpans();
        Due.throwsAt(x, 0);
        Due.throwsAt(x, -1);
        Due.throwsAt(x, Integer.MIN_VALUE);
        Due.throwsAt(x, Integer.MAX_VALUE);
        x.sorts();
        Due.row(x, 0, 1, 2, 3, 4, 5, 6, 7);
        x.week(LEAP_DAY);
        // none is left of the longer row
        Due.row(x, 2024);
        Due.throwsAt(x, 7);
        // calls that tell of no row, and those that are refused, leave it
        x.sets(1, 5, 5);
        x.parts(1, 1, 1, 1);
        x.date(5);
        x.day(20240229);
        x.momentIs(1, 0);
        x.nth(2024, 1, 0, 1);
        x.share(1, 1);
        x.rest(1, 1);
        x.years(1);
        x.written(1, 0);
        x.phrase(1, 0);
        x.keeps();
        x.back();
        x.sign(0);
        x.end(0);
        x.moment(0);
        x.span(0);
        x.week(-1);
        Due.row(x, 2024);
        // a number below 0 that is meant is told with its row
        x.parts(2, -9, 0, 0);
        Due.same("turn", x.turn(2, 3), 9);
        Due.same("turn", x.turn(3, 3), -9);
        Due.row(x, -9, 0, 0);
    }
}
