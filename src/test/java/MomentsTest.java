/** Promises 1 to 12: moments and spans, read and set and asked. */
public final class MomentsTest {
    private static final int LEAP_DAY = 738944;

    private MomentsTest() {
    }

    public static void main(String[] args) {
        aNewObject();
        sign();
        end();
        momentReads();
        momentRefuses();
        sets();
        spanReads();
        spanRefuses();
        parts();
        momentIs();
        spanIs();
        date();
        day();
        week();
        Due.ends("MomentsTest");
    }

    private static void aNewObject() {
        Due.promise(1, "A new object");
        DateSpans x = new DateSpans();
        for (int i = 0; i < 8; i++) {
            Due.moment(x, i, 0, 0);
            Due.span(x, i, 0, 0, 0);
        }
        Due.same("count(0)", x.count(0), 0);
        Due.same("count(1)", x.count(1), 0);
        Due.same("count(3)", x.count(3), 0);
        Due.row(x);
        Due.no("back()", x.back());
        DateSpans y = new DateSpans();
        x.sets(0, 5, 5);
        x.parts(0, 5, 5, 5);
        Due.moment(y, 0, 0, 0);
        Due.span(y, 0, 0, 0, 0);
        Due.same("NONE", DateSpans.NONE, -1);
    }

    private static void sign() {
        Due.promise(2, "sign");
        DateSpans x = new DateSpans();
        for (int k = 1; k <= 25; k++) {
            Due.same("sign", x.sign(0x32303234), 4 * k);
        }
        Due.same("sign beyond 100", x.sign(0), -1);
        Due.same("count(3)", x.count(3), 100);
        Due.yes("end(97)", x.end(97));
        Due.same("sign to 101", x.sign(0), -1);
        Due.same("count(3)", x.count(3), 97);
        Due.yes("end(96)", x.end(96));
        Due.same("sign to 100", x.sign(-1), 100);
        // the highest byte comes first: 1y2m
        Due.yes("end(0)", x.end(0));
        Due.same("sign", x.sign(0x3179326d), 4);
        Due.same("span", x.span(0), 14);
        // bytes above 127 and 0 are signs too, and no digits
        x.sign(0x31790000 | 0xb000);
        Due.same("span", x.span(0), -21 - 2);
        x.sign(0xb1790000);
        Due.same("span", x.span(0), -21);
        x.sign(0);
        Due.same("count(3)", x.count(3), 4);
        Due.row(x, 14, 0, 0);
    }

    private static void end() {
        Due.promise(3, "end");
        DateSpans x = new DateSpans();
        Due.yes("end(0) of none", x.end(0));
        Due.no("end(1) of none", x.end(1));
        x.sign(0x31793264);
        Due.no("end(5)", x.end(5));
        Due.no("end(-1)", x.end(-1));
        Due.same("count(3)", x.count(3), 4);
        Due.yes("end(4)", x.end(4));
        Due.same("count(3)", x.count(3), 4);
        Due.yes("end(2)", x.end(2));
        Due.same("count(3)", x.count(3), 2);
        Due.no("end(3)", x.end(3));
        Due.same("span", x.span(3), 12);
        Due.span(x, 3, 12, 0, 0);
        Due.row(x, 12, 0, 0);
    }

    private static void reads(String text, int day, int second) {
        DateSpans x = new DateSpans();
        Due.type(x, text);
        Due.same("moment of " + text, x.moment(6), day);
        Due.moment(x, 6, day, second);
        Due.same("count(3)", x.count(3), 0);
        Due.same("count(0)", x.count(0), day == 0 && second == 0 ? 0 : 64);
        Due.row(x);
    }

    private static void momentReads() {
        Due.promise(4, "moment");
        reads("2024-02-29T12:30:05", LEAP_DAY, 45005);
        reads("2024-02-29", LEAP_DAY, 0);
        reads("0001-01-01", 0, 0);
        reads("0001-01-01T00:00:01", 0, 1);
        reads("9999-12-31T23:59:59", 3652058, 86399);
        reads("2000-02-29T00:00:00", 730178, 0);
        reads("1900-02-28T23:00:00", 693653, 82800);
        reads("2023-04-30T19:09:59", 738639, 68999);
        reads("2024-10-09T20:00:00", 739167, 72000);
        // of what was there before, and of what was read before, nothing is left
        DateSpans x = new DateSpans();
        Due.type(x, "2024-02-28T12:30:05");
        Due.same("moment", x.moment(5), LEAP_DAY - 1);
        x.sets(6, 9, 9);
        Due.type(x, "2024-02-29");
        Due.same("moment", x.moment(6), LEAP_DAY);
        Due.moment(x, 6, LEAP_DAY, 0);
    }

    private static void wrongMoment(String text, int at) {
        DateSpans x = new DateSpans();
        x.sets(1, 7, 8);
        x.week(0);
        Due.type(x, text);
        Due.same("moment of " + text, x.moment(1), -21 - at);
        Due.same("count(3)", x.count(3), 0);
        Due.moment(x, 1, 7, 8);
        Due.row(x, 1);
        Due.type(x, text);
        Due.same("moment of " + text + " to no slot", x.moment(8), -21 - at);
        Due.same("count(3)", x.count(3), 0);
    }

    private static void momentRefuses() {
        Due.promise(4, "moment, refused");
        String whole = "2024-02-29T12:30:05";
        for (int n = 0; n < 19; n++) {
            if (n != 10) {
                wrongMoment(whole.substring(0, n), n);
            }
        }
        for (int p = 0; p < 19; p++) {
            wrongMoment(whole.substring(0, p) + "x" + whole.substring(p + 1), p);
            wrongMoment(whole.substring(0, p) + "/", p);
        }
        wrongMoment(whole + "0", 19);
        wrongMoment(whole + "Z      ", 19);
        wrongMoment("2024-02-29t", 10);
        wrongMoment("2024-02-29 12", 10);
        wrongMoment("0000-01-01", 3);
        wrongMoment("000", 3);
        wrongMoment("-024", 0);
        wrongMoment("2024-00-01", 6);
        wrongMoment("2024-13-01", 6);
        wrongMoment("2024-19", 6);
        wrongMoment("2024-20-01", 5);
        wrongMoment("2024-9", 5);
        wrongMoment("2024-01-00", 9);
        wrongMoment("2024-01-32", 9);
        wrongMoment("2024-01-40", 8);
        wrongMoment("2024-04-31", 9);
        wrongMoment("2024-04-41", 8);
        wrongMoment("2024-02-30", 8);
        wrongMoment("2023-02-29", 9);
        wrongMoment("2023-02-30", 8);
        wrongMoment("1900-02-29", 9);
        wrongMoment("2024-02-29T24:00:00", 12);
        wrongMoment("2024-02-29T30:00:00", 11);
        wrongMoment("2024-02-29T23:60:00", 14);
        wrongMoment("2024-02-29T23:59:60", 17);
        wrongMoment("2024-02-29T23:59:5", 18);
        wrongMoment("", 0);
        DateSpans x = new DateSpans();
        for (int slot = -1; slot < 9; slot += 9) {
            Due.type(x, "2024-02-29");
            Due.same("moment to no slot", x.moment(slot), -1);
            Due.same("count(3)", x.count(3), 0);
        }
        Due.same("count(0)", x.count(0), 0);
        Due.type(x, "2024-02-29".repeat(10));
        Due.same("moment of 100 signs", x.moment(0), -21 - 10);
    }

    private static void sets() {
        Due.promise(5, "sets");
        DateSpans x = new DateSpans();
        Due.same("sets", x.sets(7, 3652058, 86399), 0);
        Due.same("sets", x.sets(7, 12, 34), 3652058);
        Due.same("no slot", x.sets(8, 1, 1), -1);
        Due.same("no slot", x.sets(-1, 1, 1), -1);
        Due.same("no day", x.sets(7, 3652059, 1), -1);
        Due.same("no day", x.sets(7, -1, 1), -1);
        Due.same("no second", x.sets(7, 1, 86400), -1);
        Due.same("no second", x.sets(7, 1, -1), -1);
        Due.moment(x, 7, 12, 34);
        Due.same("sets", x.sets(7, 0, 0), 12);
        Due.moment(x, 7, 0, 0);
        Due.row(x);
    }

    private static void readsSpan(String text, int months, int days, int seconds) {
        DateSpans x = new DateSpans();
        x.parts(5, 9, 9, 9);
        Due.type(x, text);
        Due.same("span of " + text, x.span(5), months);
        Due.span(x, 5, months, days, seconds);
        Due.row(x, months, days, seconds);
        Due.same("count(3)", x.count(3), 0);
    }

    private static void spanReads() {
        Due.promise(6, "span");
        readsSpan("1y-2m3d4h", 10, 3, 14400);
        readsSpan("1y2m3w4d5h6i7s", 14, 25, 18367);
        readsSpan("-1y-2m-3w-4d-5h-6i-7s", -14, -25, -18367);
        readsSpan("99999y99999m99999w99999d99999h99999i99999s", 1299987, 799992, 366096339);
        readsSpan("-99999y-99999m-99999w-99999d-99999h-99999i-99999s", -1299987, -799992, -366096339);
        readsSpan("0y", 0, 0, 0);
        readsSpan("-0y0s", 0, 0, 0);
        readsSpan("-0s", 0, 0, 0);
        readsSpan("10000s", 0, 0, 10000);
        readsSpan("5i", 0, 0, 300);
        readsSpan("2w", 0, 14, 0);
        readsSpan("-1m1s", -1, 0, 1);
        readsSpan("-21m", -21, 0, 0);
        DateSpans x = new DateSpans();
        Due.type(x, "1y2m3w4d5h6i7s");
        Due.same("span", x.span(1), 14);
        Due.type(x, "1d");
        Due.same("span of another text", x.span(2), 0);
        Due.span(x, 2, 0, 1, 0);
        Due.row(x, 0, 1, 0);
        Due.span(x, 1, 14, 25, 18367);
    }

    private static void wrongSpan(String text, int at) {
        DateSpans x = new DateSpans();
        x.parts(2, 1, 2, 3);
        x.week(0);
        Due.type(x, text);
        Due.same("span of " + text, x.span(2), -21 - at);
        Due.same("count(3)", x.count(3), 0);
        Due.span(x, 2, 1, 2, 3);
        Due.row(x, 1);
        Due.type(x, text);
        Due.same("span of " + text + " to no slot", x.span(-1), -21 - at);
    }

    private static void spanRefuses() {
        Due.promise(6, "span, refused");
        wrongSpan("", 0);
        wrongSpan("-", 1);
        wrongSpan("--1y", 1);
        wrongSpan("y", 0);
        wrongSpan("-y", 1);
        wrongSpan("1", 1);
        wrongSpan("12345", 5);
        wrongSpan("123456y", 5);
        wrongSpan("-123456y", 6);
        wrongSpan("01y", 1);
        wrongSpan("00y", 1);
        wrongSpan("-00y", 2);
        wrongSpan("1y1y", 3);
        wrongSpan("1d1w", 3);
        wrongSpan("1m1y", 3);
        wrongSpan("1s1", 2);
        wrongSpan("1s-", 2);
        wrongSpan("1ss", 2);
        wrongSpan("5s1", 2);
        wrongSpan("1y2", 3);
        wrongSpan("1y-", 3);
        wrongSpan("1yy", 2);
        wrongSpan("1-y", 1);
        wrongSpan("+1y", 0);
        wrongSpan("1Y", 1);
        wrongSpan("1y 2m", 2);
        wrongSpan("1h2i3w", 5);
        wrongSpan("1x", 1);
        DateSpans x = new DateSpans();
        for (int slot = -1; slot < 9; slot += 9) {
            Due.type(x, "1y");
            Due.same("span to no slot", x.span(slot), -1);
            Due.same("count(3)", x.count(3), 0);
        }
        Due.row(x);
        Due.same("count(1)", x.count(1), 0);
    }

    private static void parts() {
        Due.promise(7, "parts");
        DateSpans x = new DateSpans();
        Due.yes("parts", x.parts(7, 1000000000, -1000000000, 1000000000));
        Due.span(x, 7, 1000000000, -1000000000, 1000000000);
        Due.yes("parts", x.parts(0, -1, 2, -3));
        Due.span(x, 0, -1, 2, -3);
        Due.no("no slot", x.parts(8, 0, 0, 0));
        Due.no("no slot", x.parts(-1, 0, 0, 0));
        Due.no("months", x.parts(0, 1000000001, 0, 0));
        Due.no("months", x.parts(0, -1000000001, 0, 0));
        Due.no("days", x.parts(0, 0, 1000000001, 0));
        Due.no("days", x.parts(0, 0, Integer.MIN_VALUE, 0));
        Due.no("seconds", x.parts(0, 0, 0, 1000000001));
        Due.no("seconds", x.parts(0, 0, 0, -1000000001));
        Due.span(x, 0, -1, 2, -3);
        Due.row(x);
    }

    private static void asks(int day, int second, int... due) {
        DateSpans x = new DateSpans();
        x.sets(3, day, second);
        for (int what = 0; what < 7; what++) {
            Due.same("momentIs(" + day + ", " + what + ")", x.momentIs(3, what), due[what]);
        }
        Due.same("another what", x.momentIs(3, 7), -1);
        Due.same("another what", x.momentIs(3, -1), -1);
        Due.same("no slot", x.momentIs(8, 0), -1);
        Due.same("no slot", x.momentIs(-1, 0), -1);
        Due.row(x);
    }

    private static void momentIs() {
        Due.promise(8, "momentIs");
        asks(LEAP_DAY, 45005, LEAP_DAY, 45005, 20240229, 3, 60, 29, 1);
        asks(0, 0, 0, 0, 10101, 0, 1, 31, 0);
        asks(3652058, 86399, 3652058, 86399, 99991231, 4, 365, 31, 0);
        asks(730119, 0, 730119, 0, 20000101, 5, 1, 31, 1);
        asks(730484, 0, 730484, 0, 20001231, 6, 366, 31, 1);
        asks(693653, 1, 693653, 1, 19000228, 2, 59, 28, 0);
        asks(738639, 0, 738639, 0, 20230430, 6, 120, 30, 0);
        int[] lengths = {31, 28, 31, 30, 31, 30, 31, 31, 30, 31, 30, 31};
        DateSpans x = new DateSpans();
        int day = x.day(20230101);
        for (int month = 1; month <= 12; month++) {
            x.sets(0, day, 0);
            Due.same("length of month " + month, x.momentIs(0, 5), lengths[month - 1]);
            day += lengths[month - 1];
            Due.same("date of its last day", x.date(day - 1), 20230000 + 100 * month + lengths[month - 1]);
        }
        int[] years = {4, 100, 400, 1900, 1996, 1999, 2000, 2004, 2100, 2400, 9996, 9999};
        int[] leap = {1, 0, 1, 0, 1, 0, 1, 1, 0, 1, 1, 0};
        for (int k = 0; k < years.length; k++) {
            x.sets(0, x.day(years[k] * 10000 + 1231), 0);
            Due.same("leap " + years[k], x.momentIs(0, 6), leap[k]);
            Due.same("days of " + years[k], x.momentIs(0, 4), 365 + leap[k]);
        }
    }

    private static void spanIs() {
        Due.promise(9, "spanIs");
        DateSpans x = new DateSpans();
        x.parts(4, -1, 20, -300);
        Due.span(x, 4, -1, 20, -300);
        Due.same("another what", x.spanIs(4, 3), -2000000000);
        Due.same("another what", x.spanIs(4, -1), -2000000000);
        Due.same("no slot", x.spanIs(8, 0), -2000000000);
        Due.same("no slot", x.spanIs(-1, 2), -2000000000);
        Due.row(x);
    }

    private static void date() {
        Due.promise(10, "date");
        DateSpans x = new DateSpans();
        Due.same("date", x.date(0), 10101);
        Due.same("date", x.date(30), 10131);
        Due.same("date", x.date(31), 10201);
        Due.same("date", x.date(58), 10228);
        Due.same("date", x.date(59), 10301);
        Due.same("date", x.date(LEAP_DAY), 20240229);
        Due.same("date", x.date(LEAP_DAY + 1), 20240301);
        Due.same("date", x.date(693654), 19000301);
        Due.same("date", x.date(730119), 20000101);
        Due.same("date", x.date(730484), 20001231);
        Due.same("date", x.date(3652058), 99991231);
        Due.same("no day", x.date(3652059), -1);
        Due.same("no day", x.date(-1), -1);
        Due.same("no day", x.date(Integer.MIN_VALUE), -1);
        Due.same("no day", x.date(Integer.MAX_VALUE), -1);
    }

    private static void day() {
        Due.promise(11, "day");
        DateSpans x = new DateSpans();
        Due.same("day", x.day(10101), 0);
        Due.same("day", x.day(20240229), LEAP_DAY);
        Due.same("day", x.day(99991231), 3652058);
        Due.same("day", x.day(19000228), 693653);
        Due.same("day", x.day(20001231), 730484);
        int[] none = {20230229, 19000229, 20240230, 20240431, 20240100, 20240132, 20240001, 20241301,
            20241400, 101, 1231, 0, -5, -20240229, 100000101, 10100, Integer.MIN_VALUE, Integer.MAX_VALUE};
        for (int date : none) {
            Due.same("day(" + date + ")", x.day(date), -2);
        }
    }

    private static void week(DateSpans x, int day, int week, int year) {
        Due.same("week(" + day + ")", x.week(day), week);
        Due.row(x, year);
    }

    private static void week() {
        Due.promise(12, "week");
        DateSpans x = new DateSpans();
        week(x, LEAP_DAY, 9, 2024);
        week(x, 737790, 53, 2020);
        week(x, 730119, 52, 1999);
        week(x, 730121, 1, 2000);
        week(x, 0, 1, 1);
        week(x, 6, 1, 1);
        week(x, 7, 2, 1);
        week(x, 3652058, 52, 9999);
        week(x, 739249, 1, 2025);
        week(x, 739248, 52, 2024);
        week(x, 735597, 1, 2015);
        week(x, 735965, 53, 2015);
        week(x, 735966, 1, 2016);
        Due.same("no day", x.week(-1), -1);
        Due.same("no day", x.week(3652059), -1);
        Due.row(x, 2016);
    }
}
