import java.time.LocalDate;
import java.time.YearMonth;
import java.util.Random;
import java.util.regex.Pattern;

/** Texts sentence by sentence: promises 2, 3, 4, 6, 45 and 46, each boundary on both sides. */
public final class TextEdgesTest {
    private static final int LAST = 3652058;
    private static final String NUMBER = "-?(0|[1-9][0-9]{0,4})";
    private static final Pattern SPAN = Pattern.compile("(?=.)(N#y)?(N#m)?(N#w)?(N#d)?(N#h)?(N#i)?(N#s)?"
            .replace("N#", NUMBER), Pattern.DOTALL);
    private static final String UNITS = "ymwdhis";

    private TextEdgesTest() {
    }

    public static void main(String[] args) {
        sign();
        end();
        momentParts();
        momentAnySign();
        momentTooEarly();
        momentHolds();
        spanNumbers();
        spanOrder();
        spanAnySign();
        spanDrawn();
        spanHolds();
        written();
        phrase();
        phraseDigits();
        Due.ends("TextEdgesTest");
    }

    // ---- promises 2 and 3

    private static void sign() {
        Due.sentence(2, "Four signs come behind THE TEXT: how many it has");
        DateSpans x = new DateSpans();
        Due.same("sign", x.sign(0x31793200), 4);
        Due.yes("end(3)", x.end(3));
        Due.same("sign", x.sign(0x6d337764), 7);
        Due.sentence(2, "of v the highest byte first");
        Due.same("span of 1y2m3wd", x.span(0), -21 - 6);
        x.sign(0x31793200);
        x.end(3);
        x.sign(0x6d336400);
        x.end(6);
        Due.same("span of 1y2m3d", x.span(0), 14);
        Due.row(x, 14, 3, 0);
        Due.sentence(2, "Refused: there would be more than 100");
        for (int first = 0; first < 4; first++) {
            full(first);
        }
    }

    /** A text of so many signs and 24 or 25 times four more. */
    private static void full(int first) {
        DateSpans x = new DateSpans();
        x.sign(0x31793264);
        x.end(first);
        int signs = first;
        while (signs + 4 <= 100) {
            signs += 4;
            Due.same("sign to " + signs, x.sign(0x20202020), signs);
        }
        Due.same("sign to " + (signs + 4), x.sign(0x31313131), -1);
        Due.same("count(3)", x.count(3), signs);
        Due.same("sign to " + (signs + 4), x.sign(0), -1);
        Due.yes("end to 1", first == 0 || x.end(1));
        if (first > 0) {
            Due.yes("its first sign is there", x.sign(0x79000000) == 5 && x.end(2) && x.span(3) == 12);
        }
    }

    private static void end() {
        Due.sentence(3, "THE TEXT has its first n signs alone: true");
        for (int n = 0; n <= 8; n++) {
            DateSpans x = Held.filled();
            Due.yes("end(" + n + ")", x.end(n));
            Due.same("count(3)", x.count(3), n);
            int[] wrong = {0, 1, 0, 3, 0, 5, 0, 7, 0};
            int[] months = {0, 0, 12, 0, 14, 0, 14, 0, 14};
            Due.same("span", x.span(0), n == 0 || wrong[n] > 0 ? -21 - wrong[n] : months[n]);
        }
        Due.sentence(3, "false if it has not so many");
        DateSpans x = Held.filled();
        Held held = Held.of(x);
        Due.no("end(9)", x.end(9));
        Due.no("end(100)", x.end(100));
        Due.no("end(max)", x.end(Integer.MAX_VALUE));
        held.still("end(9)");
        Due.sentence(3, "or n is below 0");
        Due.no("end(-1)", x.end(-1));
        Due.no("end(min)", x.end(Integer.MIN_VALUE));
        held.ends("end(-1)");
        Due.sentence(3, "signs that were cut off are none behind it");
        x = Held.filled();
        x.end(4);
        Due.no("end(5)", x.end(5));
        Due.no("end(8)", x.end(8));
        Due.same("count(3)", x.count(3), 4);
    }

    // ---- promise 4

    private static void reads(String text, int day, int second) {
        DateSpans x = Held.filled();
        Due.type(x, text);
        Held held = Held.of(x).moment(4, day, second).noText();
        Due.same("moment of " + text, x.moment(4), day);
        held.ends("moment of " + text);
    }

    private static void wrong(String text, int at) {
        DateSpans x = Held.filled();
        Due.type(x, text);
        Held held = Held.of(x).noText();
        Due.same("moment of " + text, x.moment(4), -21 - at);
        held.ends("moment of " + text);
    }

    private static void momentParts() {
        Due.sentence(4, "year (four digits): a year 0000: its last digit");
        wrong("0000-01-01", 3);
        reads("0001-01-01", 0, 0);
        reads("0010-01-01", Due.day(10, 1, 1), 0);
        reads("1000-01-01", Due.day(1000, 1, 1), 0);
        reads("9999-12-31", LAST, 0);
        Due.sentence(4, "a month there is none of: its last digit");
        wrong("2024-00-10", 6);
        reads("2024-01-10", Due.day(2024, 1, 10), 0);
        reads("2024-09-10", Due.day(2024, 9, 10), 0);
        reads("2024-10-10", Due.day(2024, 10, 10), 0);
        reads("2024-12-10", Due.day(2024, 12, 10), 0);
        wrong("2024-13-10", 6);
        Due.sentence(4, "a digit that leads to none such already: it (a month)");
        wrong("2024-20-10", 5);
        wrong("2024-90-10", 5);
        dayParts();
        Due.sentence(4, "hour, minute, second: an hour there is none of");
        reads("2024-01-10T00:00:00", Due.day(2024, 1, 10), 0);
        reads("2024-01-10T23:00:00", Due.day(2024, 1, 10), 82800);
        reads("2024-01-10T19:00:00", Due.day(2024, 1, 10), 68400);
        wrong("2024-01-10T24:00:00", 12);
        wrong("2024-01-10T29:00:00", 12);
        wrong("2024-01-10T30:00:00", 11);
        Due.sentence(4, "a minute there is none of");
        reads("2024-01-10T00:59:00", Due.day(2024, 1, 10), 3540);
        wrong("2024-01-10T00:60:00", 14);
        Due.sentence(4, "a second there is none of");
        reads("2024-01-10T00:00:59", Due.day(2024, 1, 10), 59);
        wrong("2024-01-10T00:00:60", 17);
        Due.sentence(4, "perhaps T .. (else SECOND is 0)");
        reads("2024-02-29", Due.day(2024, 2, 29), 0);
        reads("2024-02-29T12:30:05", Due.day(2024, 2, 29), 45005);
    }

    private static void dayParts() {
        Due.sentence(4, "a day there is none of: its last digit; a digit that leads to none such already: it");
        for (int year : new int[] {1, 4, 100, 400, 1900, 2000, 2023, 2024, 9996, 9999}) {
            for (int month = 1; month <= 12; month++) {
                int length = YearMonth.of(year, month).lengthOfMonth();
                String ahead = String.format("%04d-%02d-", year, month);
                reads(ahead + "01", Due.day(year, month, 1), 0);
                reads(ahead + length, Due.day(year, month, length), 0);
                wrong(ahead + "00", 9);
                wrong(ahead + (length + 1), length == 29 ? 8 : 9);
                wrong(ahead + "40", 8);
                if (length < 30) {
                    wrong(ahead + "30", 8);
                }
            }
        }
    }

    private static String twoDigits(int number) {
        return number < 10 ? "0" + number : "" + number;
    }

    private static boolean begins(String part, int low, int high) {
        for (int number = low; number <= high; number++) {
            if (twoDigits(number).startsWith(part)) {
                return true;
            }
        }
        return false;
    }

    private static String part(String text, int from) {
        return text.substring(from, Math.min(text.length(), from + 2));
    }

    /** Whether a text as told can begin so: found by trying all numbers that there are. */
    private static boolean canBegin(String text) {
        int n = text.length();
        String year = text.substring(0, Math.min(4, n));
        if (n > 19 || !year.matches("[0-9]*") || year.equals("0000")) {
            return false;
        }
        String marks = "....-..-..T..:..:..";
        for (int p = 0; p < n; p++) {
            if (marks.charAt(p) != '.' && marks.charAt(p) != text.charAt(p)) {
                return false;
            }
        }
        if (n > 5 && !begins(part(text, 5), 1, 12)) {
            return false;
        }
        if (n > 8) {
            int month = Integer.parseInt(part(text, 5));
            int length = YearMonth.of(Integer.parseInt(year), month).lengthOfMonth();
            if (!begins(part(text, 8), 1, length)) {
                return false;
            }
        }
        return (n <= 11 || begins(part(text, 11), 0, 23)) && (n <= 14 || begins(part(text, 14), 0, 59))
                && (n <= 17 || begins(part(text, 17), 0, 59));
    }

    private static int wrongAt(String text) {
        for (int p = 0; p < text.length(); p++) {
            if (!canBegin(text.substring(0, p + 1))) {
                return p;
            }
        }
        return text.length() == 10 || text.length() == 19 ? -1 : text.length();
    }

    private static void momentAnySign() {
        Due.sentence(0, "-21 - p: the first sign with which no text as told can begin so far");
        String[] texts = {"2024-02-29T12:30:05", "2023-02-28T23:59:59", "9999-12-31T00:00:00", "0001-01-01T20:10:50",
            "2024-04-30", "1900-02-19", "2000-10-30", "1000-11-09T09:09:09"};
        for (String text : texts) {
            for (int p = 0; p < text.length(); p++) {
                for (int sign = 0; sign < 256; sign++) {
                    String other = text.substring(0, p) + (char) sign + text.substring(p + 1);
                    looks(other, sign);
                }
            }
        }
    }

    private static DateSpans looked = new DateSpans();
    private static int looks = 0;

    private static void looks(String text, int sign) {
        // an object is used for 512 calls at the most
        looks++;
        if (looks % 50 == 0) {
            looked = new DateSpans();
        }
        Due.type(looked, text);
        int at = wrongAt(text);
        int day = at == -1 ? (int) (LocalDate.parse(text.substring(0, 10)).toEpochDay() + 719162) : -21 - at;
        Due.same("moment of " + text + " with sign " + sign, looked.moment(0), day);
    }

    private static void momentTooEarly() {
        Due.sentence(0, "(p is the number of its signs, if it ends too early)");
        String whole = "2024-02-29T12:30:05";
        for (int n = 0; n < 19; n++) {
            if (n != 10) {
                wrong(whole.substring(0, n), n);
            }
        }
        reads(whole.substring(0, 10), Due.day(2024, 2, 29), 0);
        reads(whole, Due.day(2024, 2, 29), 45005);
        Due.sentence(0, "the first sign with which no text as told can begin so far: one behind its end");
        wrong(whole + "0", 19);
        wrong(whole + "Z", 19);
        wrong(whole + "\0", 19);
        wrong("2024-02-29\0", 10);
        wrong("2024-02-290", 10);
        wrong(whole + "0".repeat(81), 19);
    }

    private static void momentHolds() {
        Due.sentence(4, "THE TEXT is the MOMENT of SLOT i: only that SLOT becomes it");
        for (int i = 0; i < 8; i++) {
            DateSpans x = Held.filled();
            Due.type(x, "2024-02-29T12:30:05");
            Held held = Held.of(x).moment(i, Due.day(2024, 2, 29), 45005).noText();
            Due.same("moment(" + i + ")", x.moment(i), Due.day(2024, 2, 29));
            held.ends("moment(" + i + ")");
        }
        Due.sentence(4, "else SECOND is 0: of a text ahead of it nothing is left");
        DateSpans x = new DateSpans();
        Due.type(x, "2024-02-29T12:30:05");
        x.moment(3);
        Due.type(x, "2024-02-28");
        x.moment(3);
        Due.moment(x, 3, Due.day(2024, 2, 28), 0);
    }

    // ---- promise 6

    private static void readsSpan(String text, int months, int days, int seconds) {
        DateSpans x = Held.filled();
        Due.type(x, text);
        Held held = Held.of(x).span(4, months, days, seconds).row(months, days, seconds).noText();
        Due.same("span of " + text, x.span(4), months);
        held.ends("span of " + text);
    }

    private static void wrongSpan(String text, int at) {
        DateSpans x = Held.filled();
        Due.type(x, text);
        Held held = Held.of(x).noText();
        Due.same("span of " + text, x.span(4), -21 - at);
        held.ends("span of " + text);
    }

    private static void spanNumbers() {
        int[][] each = {{12, 0, 0}, {1, 0, 0}, {0, 7, 0}, {0, 1, 0}, {0, 0, 3600}, {0, 0, 60}, {0, 0, 1}};
        for (int u = 0; u < 7; u++) {
            String unit = UNITS.substring(u, u + 1);
            int[] e = each[u];
            Due.sentence(6, "MONTHS (12 y and m), DAYS (7 w and d), SECONDS (3600 h, 60 i and s)");
            readsSpan("1" + unit, e[0], e[1], e[2]);
            Due.sentence(6, "- ahead of it: below 0");
            readsSpan("-1" + unit, -e[0], -e[1], -e[2]);
            wrongSpan("--1" + unit, 1);
            wrongSpan("1-" + unit, 1);
            wrongSpan("+1" + unit, 0);
            wrongSpan("-" + unit, 1);
            Due.sentence(6, "-0 is taken, and is 0");
            readsSpan("-0" + unit, 0, 0, 0);
            readsSpan("0" + unit, 0, 0, 0);
            Due.sentence(6, "no nought ahead but 0 itself");
            wrongSpan("00" + unit, 1);
            wrongSpan("01" + unit, 1);
            wrongSpan("-00" + unit, 2);
            wrongSpan("-01" + unit, 2);
            readsSpan("10" + unit, 10 * e[0], 10 * e[1], 10 * e[2]);
            Due.sentence(6, "its number ahead (1 to 5 digits)");
            wrongSpan(unit, 0);
            readsSpan("99999" + unit, 99999 * e[0], 99999 * e[1], 99999 * e[2]);
            readsSpan("-99999" + unit, -99999 * e[0], -99999 * e[1], -99999 * e[2]);
            readsSpan("10000" + unit, 10000 * e[0], 10000 * e[1], 10000 * e[2]);
            wrongSpan("100000" + unit, 5);
            wrongSpan("-100000" + unit, 6);
        }
        Due.sentence(6, "each -1000000000 .. 1000000000: the greatest that a text tells");
        readsSpan("99999y99999m99999w99999d99999h99999i99999s", 1299987, 799992, 366096339);
        readsSpan("-99999y-99999m-99999w-99999d-99999h-99999i-99999s", -1299987, -799992, -366096339);
        readsSpan("1y-2m3d4h", 10, 3, 14400);
    }

    private static void spanOrder() {
        Due.sentence(6, "one or more PARTS");
        wrongSpan("", 0);
        Due.sentence(6, "in this order, each once at most");
        for (int u = 0; u < 7; u++) {
            for (int v = 0; v < 7; v++) {
                String text = "1" + UNITS.charAt(u) + "2" + UNITS.charAt(v);
                DateSpans x = new DateSpans();
                Due.type(x, text);
                int answer = x.span(0);
                int due = u < v ? answer : u == 6 ? -21 - 2 : -21 - 3;
                Due.same("span of " + text, answer, due);
                Due.yes("span of " + text + " answered " + answer, u >= v || answer >= 0);
            }
        }
        Due.sentence(0, "(p is the number of its signs, if it ends too early)");
        wrongSpan("-", 1);
        wrongSpan("1", 1);
        wrongSpan("12345", 5);
        wrongSpan("-12345", 6);
        wrongSpan("1y-", 3);
        wrongSpan("1y2", 3);
        wrongSpan("1h-5", 4);
        Due.sentence(0, "the first sign with which no text as told can begin so far: any behind s");
        wrongSpan("1s1", 2);
        wrongSpan("1s-", 2);
        wrongSpan("1ss", 2);
        wrongSpan("1s\0", 2);
        wrongSpan("1i1ss", 4);
    }

    private static boolean spanCanBegin(String text) {
        String[] ends = {"", "y", "m", "w", "d", "h", "i", "s", "1y", "1m", "1w", "1d", "1h", "1i", "1s"};
        for (String end : ends) {
            if (SPAN.matcher(text + end).matches()) {
                return true;
            }
        }
        return false;
    }

    private static int spanWrongAt(String text) {
        for (int p = 0; p < text.length(); p++) {
            if (!spanCanBegin(text.substring(0, p + 1))) {
                return p;
            }
        }
        return SPAN.matcher(text).matches() ? -1 : text.length();
    }

    private static void looksSpan(String text) {
        looks++;
        if (looks % 50 == 0) {
            looked = new DateSpans();
        }
        Due.type(looked, text);
        int at = spanWrongAt(text);
        int answer = looked.span(0);
        Due.same("span of " + text + (at == -1 ? " is read" : ""), answer, at == -1 ? looked.spanIs(0, 0) : -21 - at);
    }

    private static void spanAnySign() {
        Due.sentence(0, "-21 - p: the first sign with which no text as told can begin so far (a span)");
        String[] texts = {"1y-2m3d4h", "-12345y0m99999s", "0y0m0w0d0h0i0s", "-0s", "10000w-7i"};
        for (String text : texts) {
            for (int p = 0; p < text.length(); p++) {
                for (int sign = 0; sign < 256; sign++) {
                    looksSpan(text.substring(0, p) + (char) sign + text.substring(p + 1));
                }
            }
        }
    }

    private static void spanDrawn() {
        Random random = new Random(6);
        String signs = "0159-ymwdhis-019ymws";
        for (int k = 0; k < 30000; k++) {
            StringBuilder text = new StringBuilder();
            for (int n = random.nextInt(10); n > 0; n--) {
                text.append(signs.charAt(random.nextInt(signs.length())));
            }
            looksSpan(text.toString());
        }
    }

    private static void spanHolds() {
        Due.sentence(6, "THE TEXT is the SPAN of SLOT s: only that SLOT becomes it; the ROW");
        for (int s = 0; s < 8; s++) {
            DateSpans x = Held.filled();
            Due.type(x, "-1m");
            Held held = Held.of(x).span(s, -1, 0, 0).row(-1, 0, 0).noText();
            Due.same("span(" + s + ")", x.span(s), -1);
            held.ends("span(" + s + ") below 0 that is meant");
        }
        DateSpans x = Held.filled();
        Due.type(x, "-1y-9m");
        Held held = Held.of(x).span(2, -21, 0, 0).row(-21, 0, 0).noText();
        Due.same("span(2)", x.span(2), -21);
        held.ends("span(2) of -21 months");
    }

    // ---- promises 45 and 46

    private static void writes(int day, int second, String due) {
        DateSpans x = Held.filled();
        x.sets(6, day, second);
        Held held = Held.of(x);
        for (int k = 0; k < due.length(); k++) {
            Due.same("written(6, " + k + ") of " + due, x.written(6, k), due.charAt(k));
        }
        Due.same("written(6, -1) of " + due, x.written(6, -1), due.length());
        Due.same("written(6, " + due.length() + ") of " + due, x.written(6, due.length()), -1);
        Due.same("written(6, 99) of " + due, x.written(6, 99), -1);
        Due.same("written(6, 100) of " + due, x.written(6, 100), -1);
        Due.same("written(6, max) of " + due, x.written(6, Integer.MAX_VALUE), -1);
        Due.same("written(6, -2) of " + due, x.written(6, -2), -1);
        Due.same("written(6, min) of " + due, x.written(6, Integer.MIN_VALUE), -1);
        held.ends("written of " + due);
    }

    private static void written() {
        Due.sentence(45, "(with T and behind it, if SECOND is not 0)");
        writes(Due.day(2024, 2, 29), 0, "2024-02-29");
        writes(Due.day(2024, 2, 29), 1, "2024-02-29T00:00:01");
        writes(Due.day(2024, 2, 29), 45005, "2024-02-29T12:30:05");
        Due.sentence(45, "written as moment() reads it");
        writes(0, 0, "0001-01-01");
        writes(Due.day(9, 9, 9), 9 * 3661, "0009-09-09T09:09:09");
        writes(Due.day(10, 10, 10), 10 * 3661, "0010-10-10T10:10:10");
        writes(Due.day(99, 12, 31), 59, "0099-12-31T00:00:59");
        writes(Due.day(100, 1, 1), 60, "0100-01-01T00:01:00");
        writes(Due.day(999, 12, 31), 3599, "0999-12-31T00:59:59");
        writes(Due.day(1000, 1, 1), 3600, "1000-01-01T01:00:00");
        writes(LAST, 86399, "9999-12-31T23:59:59");
        Due.sentence(45, "k NONE: how many signs. NONE: no such sign: a shorter one behind a longer one");
        DateSpans x = new DateSpans();
        x.sets(1, 5, 5);
        x.written(1, 0);
        Due.same("written(0, 10)", x.written(0, 10), -1);
        Due.same("written(0, -1)", x.written(0, -1), 10);
        Due.same("written(1, 10)", x.written(1, 10), 'T');
    }

    private static void says(int months, int days, int seconds, String due) {
        DateSpans x = Held.filled();
        x.parts(6, months, days, seconds);
        Held held = Held.of(x);
        for (int k = 0; k < due.length(); k++) {
            Due.same("phrase(6, " + k + ") of " + due, x.phrase(6, k), due.charAt(k));
        }
        Due.same("phrase(6, -1) of " + due, x.phrase(6, -1), due.length());
        Due.same("phrase(6, " + due.length() + ") of " + due, x.phrase(6, due.length()), -1);
        Due.same("phrase(6, max) of " + due, x.phrase(6, Integer.MAX_VALUE), -1);
        Due.same("phrase(6, -2) of " + due, x.phrase(6, -2), -1);
        held.still("phrase of " + due);
        Due.type(x, due);
        Due.same("span of " + due, x.span(0), months);
        Due.span(x, 0, months, days, seconds);
    }

    private static void phrase() {
        Due.sentence(46, "those that are 0 left out (0s, if all are)");
        says(0, 0, 0, "0s");
        says(1, 0, 0, "1m");
        says(0, 1, 0, "1d");
        says(0, 0, 1, "1s");
        says(0, 0, -1, "-1s");
        Due.sentence(46, "years and months, of MONTHS towards 0");
        says(11, 0, 0, "11m");
        says(12, 0, 0, "1y");
        says(13, 0, 0, "1y1m");
        says(-11, 0, 0, "-11m");
        says(-12, 0, 0, "-1y");
        says(-13, 0, 0, "-1y-1m");
        Due.sentence(46, "weeks and days");
        says(0, 6, 0, "6d");
        says(0, 7, 0, "1w");
        says(0, 8, 0, "1w1d");
        says(0, -6, 0, "-6d");
        says(0, -7, 0, "-1w");
        says(0, -8, 0, "-1w-1d");
        Due.sentence(46, "hours, minutes, seconds");
        says(0, 0, 59, "59s");
        says(0, 0, 60, "1i");
        says(0, 0, 61, "1i1s");
        says(0, 0, 3599, "59i59s");
        says(0, 0, 3600, "1h");
        says(0, 0, 3601, "1h1s");
        says(0, 0, 3660, "1h1i");
        says(0, 0, -59, "-59s");
        says(0, 0, -60, "-1i");
        says(0, 0, -3599, "-59i-59s");
        says(0, 0, -3661, "-1h-1i-1s");
        says(-14, 25, -18367, "-1y-2m3w4d-5h-6i-7s");
    }

    private static void phraseDigits() {
        Due.sentence(46, "as span() reads it: numbers of 1 to 5 digits");
        int[] numbers = {9, 10, 99, 100, 999, 1000, 9999, 10000, 99999};
        for (int number : numbers) {
            says(12 * number, 0, 0, number + "y");
            says(-12 * number, 0, 0, "-" + number + "y");
            says(0, 7 * number, 0, number + "w");
            says(0, 0, 3600 * number, number + "h");
            says(0, 0, -3600 * number, "-" + number + "h");
        }
        says(1199999, 699999, 359999999, "99999y11m99999w6d99999h59i59s");
        says(-1199999, -699999, -359999999, "-99999y-11m-99999w-6d-99999h-59i-59s");
        Due.sentence(46, "-2: a number of it would have more than 5 digits");
        int[][] great = {{1200000, 0, 0}, {-1200000, 0, 0}, {0, 700000, 0}, {0, -700000, 0}, {0, 0, 360000000},
            {0, 0, -360000000}};
        for (int[] s : great) {
            DateSpans x = Held.filledWith(5, 5, s[0], s[1], s[2]);
            Held held = Held.of(x);
            Due.same("phrase", x.phrase(3, -1), -2);
            Due.same("phrase", x.phrase(3, 0), -2);
            held.ends("phrase");
        }
    }
}
