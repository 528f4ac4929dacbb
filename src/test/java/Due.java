import java.time.LocalDate;
import java.time.temporal.ChronoUnit;
import java.util.NoSuchElementException;

/** Counts the answers that are not as they are due, and prints them. */
final class Due {
    private static int wrong = 0;
    private static String promise = "";

    private Due() {
    }

    static void promise(int number, String name) {
        promise = "promise " + number + " (" + name + ")";
    }

    /** A sentence of the document, in its own words: number 0 is "Terms" 1 or 2. */
    static void sentence(int number, String words) {
        promise = (number == 0 ? "Terms" : "promise " + number) + ", \"" + words + "\"";
    }

    /** The number of a date's day, as the Java library counts days. */
    static int day(int year, int month, int dayOfMonth) {
        return (int) ChronoUnit.DAYS.between(LocalDate.of(1, 1, 1), LocalDate.of(year, month, dayOfMonth));
    }

    static void same(String call, long got, long want) {
        if (got != want) {
            wrong++;
            System.out.println(promise + ": " + call + " answered " + got + ", due is " + want);
        }
    }

    static void yes(String call, boolean got) {
        same(call, got ? 1 : 0, 1);
    }

    static void no(String call, boolean got) {
        same(call, got ? 1 : 0, 0);
    }

    /** The row is these numbers and no others. */
    static void row(DateSpans x, long... numbers) {
        same("numbers of the row", x.count(2), numbers.length);
        for (int k = 0; k < numbers.length; k++) {
            same("row(" + k + ")", at(x, k), numbers[k]);
        }
        throwsAt(x, numbers.length);
        throwsAt(x, -1);
    }

    private static long at(DateSpans x, int k) {
        try {
            return x.row(k);
        } catch (NoSuchElementException e) {
            return Long.MIN_VALUE + 7;
        }
    }

    static void throwsAt(DateSpans x, int k) {
        boolean thrown = false;
        try {
            x.row(k);
        } catch (NoSuchElementException e) {
            thrown = e.getClass() == NoSuchElementException.class;
        }
        yes("row(" + k + ") throws NoSuchElementException", thrown);
    }

    /** A span in a slot. */
    static void span(DateSpans x, int s, int months, int days, int seconds) {
        same("spanIs(" + s + ", 0)", x.spanIs(s, 0), months);
        same("spanIs(" + s + ", 1)", x.spanIs(s, 1), days);
        same("spanIs(" + s + ", 2)", x.spanIs(s, 2), seconds);
    }

    /** A moment in a slot. */
    static void moment(DateSpans x, int i, int day, int second) {
        same("momentIs(" + i + ", 0)", x.momentIs(i, 0), day);
        same("momentIs(" + i + ", 1)", x.momentIs(i, 1), second);
    }

    /** The text becomes these signs alone. */
    static void type(DateSpans x, String text) {
        x.end(0);
        for (int k = 0; k < text.length(); k += 4) {
            int v = 0;
            for (int j = k; j < k + 4; j++) {
                v = v << 8 | (j < text.length() ? text.charAt(j) : 0);
            }
            x.sign(v);
        }
        x.end(text.length());
    }

    static void ends(String name) {
        System.out.println(name + (wrong == 0 ? ": all as due" : ": " + wrong + " not as due"));
        if (wrong != 0) {
            System.exit(1);
        }
    }
}
