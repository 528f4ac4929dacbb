import java.util.Arrays;

/** What an object holds, taken ahead of a call and held against what it holds behind that call. */
final class Held {
    private static final String TEXT = "1y2m3w4d";

    private final DateSpans x;
    private final int[] moments = new int[16];
    private final int[] spans = new int[24];
    private long[] row;
    private int signs;

    private Held(DateSpans x) {
        this.x = x;
        for (int i = 0; i < 8; i++) {
            moments[2 * i] = x.momentIs(i, 0);
            moments[2 * i + 1] = x.momentIs(i, 1);
            for (int what = 0; what < 3; what++) {
                spans[3 * i + what] = x.spanIs(i, what);
            }
        }
        row = new long[x.count(2)];
        for (int k = 0; k < row.length; k++) {
            row[k] = x.row(k);
        }
        signs = x.count(3);
    }

    /** All slots become moments and spans that are unlike each other, and unlike those of another number. */
    static void fill(DateSpans x, int by) {
        for (int i = 0; i < 8; i++) {
            x.sets(i, 100 * i + by, 10 * i + by);
            x.parts(i, i + by, -i - by, 1000 * i + by);
        }
    }

    /** All slots are as fill() makes them. */
    static void isFilled(DateSpans x, int by) {
        for (int i = 0; i < 8; i++) {
            Due.moment(x, i, 100 * i + by, 10 * i + by);
            Due.span(x, i, i + by, -i - by, 1000 * i + by);
        }
    }

    /** An object in which all there is to hold is something: slots, other slots kept, a row, a text. */
    static DateSpans filled() {
        DateSpans x = new DateSpans();
        for (int i = 0; i < 8; i++) {
            x.sets(i, 1000 + i, 100 + i);
            x.parts(i, 50 + i, -60 - i, 70 + i);
        }
        x.keeps();
        for (int i = 0; i < 8; i++) {
            x.sets(i, 738885 + 31 * (3 * i % 8), 1000 * i + 7);
            x.parts(i, i + 2, 10 - i, 1000 * i - 3500);
        }
        x.sorts();
        Due.type(x, TEXT);
        return x;
    }

    /** The same with one moment in all slots and one span in all slots. */
    static DateSpans filledWith(int day, int second, int months, int days, int seconds) {
        DateSpans x = filled();
        for (int i = 0; i < 8; i++) {
            x.sets(i, day, second);
            x.parts(i, months, days, seconds);
        }
        return x;
    }

    static Held of(DateSpans x) {
        return new Held(x);
    }

    /** The call is to put this moment into a slot. */
    Held moment(int i, int day, int second) {
        moments[2 * i] = day;
        moments[2 * i + 1] = second;
        return this;
    }

    /** The call is to put this span into a slot. */
    Held span(int s, int months, int days, int seconds) {
        spans[3 * s] = months;
        spans[3 * s + 1] = days;
        spans[3 * s + 2] = seconds;
        return this;
    }

    /** The call is to tell this row. */
    Held row(long... numbers) {
        row = Arrays.copyOf(numbers, numbers.length);
        return this;
    }

    /** The call is to empty the text. */
    Held noText() {
        signs = 0;
        return this;
    }

    /** Slots, row and the number of signs are as they are to be. */
    void still(String call) {
        for (int i = 0; i < 8; i++) {
            Due.same(call + ", then momentIs(" + i + ", 0)", x.momentIs(i, 0), moments[2 * i]);
            Due.same(call + ", then momentIs(" + i + ", 1)", x.momentIs(i, 1), moments[2 * i + 1]);
            for (int what = 0; what < 3; what++) {
                Due.same(call + ", then spanIs(" + i + ", " + what + ")", x.spanIs(i, what), spans[3 * i + what]);
            }
        }
        Due.row(x, row);
        Due.same(call + ", then count(3)", x.count(3), signs);
    }

    /** So are the text and the kept slots of an object that was filled: it is used up by looking at them. */
    void ends(String call) {
        still(call);
        Due.same(call + ", then span(0)", x.span(0), signs == 0 ? -21 : 14);
        if (signs != 0) {
            Due.row(x, 14, 25, 0);
        }
        Due.yes(call + ", then back()", x.back());
        for (int i = 0; i < 8; i++) {
            Due.moment(x, i, 1000 + i, 100 + i);
            Due.span(x, i, 50 + i, -60 - i, 70 + i);
        }
    }
}
