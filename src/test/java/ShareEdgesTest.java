import java.util.Random;

/** Shares, slots kept, counts and the row, sentence by sentence: promises 41 to 44 and 47 to 50. */
public final class ShareEdgesTest {
    private static final int LAST = 3652058;
    private static final int MOST = 1000000000;

    private ShareEdgesTest() {
    }

    public static void main(String[] args) {
        length();
        noughts();
        sharesDrawn();
        ranks();
        ranksOfLikeOnes();
        rest();
        years();
        keeps();
        keepsNeither();
        back();
        backAgain();
        countMoments();
        countSpans();
        countRowAndText();
        row();
        rowNumbers();
        rowBelowNought();
        Due.ends("ShareEdgesTest");
    }

    private static int[] of(int... numbers) {
        return numbers;
    }

    private static DateSpans two(int[] s, int[] t) {
        DateSpans x = Held.filled();
        x.parts(1, s[0], s[1], s[2]);
        x.parts(7, t[0], t[1], t[2]);
        return x;
    }

    private static double lengthOf(int[] s) {
        return 2629746.0 * s[0] + 86400.0 * s[1] + s[2];
    }

    private static void shares(int[] s, int[] t, long due) {
        DateSpans x = two(s, t);
        Held held = Held.of(x);
        Due.same("share", x.share(1, 7), due);
        held.ends("share");
    }

    private static void rests(int[] s, int[] t, long due) {
        DateSpans x = two(s, t);
        Held held = Held.of(x);
        Due.same("rest", x.rest(1, 7), due);
        held.ends("rest");
    }

    // ---- promises 41 to 44

    private static void length() {
        int[] second = {0, 0, 1};
        Due.sentence(41, "LENGTH of a SPAN as a double: 2629746.0 times MONTHS");
        shares(of(1, 0, 0), second, Double.doubleToLongBits(2629746.0));
        shares(of(-1, 0, 0), second, Double.doubleToLongBits(-2629746.0));
        Due.sentence(41, "86400.0 times DAYS");
        shares(of(0, 1, 0), second, Double.doubleToLongBits(86400.0));
        Due.sentence(41, "SECONDS, together from the left");
        shares(of(0, 0, 7), second, Double.doubleToLongBits(7.0));
        shares(of(1, -30, -37746), second, 0);
        shares(of(1, -30, -37745), second, Double.doubleToLongBits(1.0));
        shares(of(1, -30, -37747), second, Double.doubleToLongBits(-1.0));
        shares(of(MOST, MOST, MOST), second, Double.doubleToLongBits(2629746.0 * MOST + 86400.0 * MOST + MOST));
        shares(of(-MOST, -MOST, -MOST), second, Double.doubleToLongBits(-2629746.0 * MOST - 86400.0 * MOST - MOST));
        Due.sentence(41, "of that of s by that of t (as doubles divide)");
        shares(of(0, 0, 1), of(0, 0, 3), Double.doubleToLongBits(1.0 / 3.0));
        shares(of(0, 0, 3), of(0, 0, 1), Double.doubleToLongBits(3.0));
        shares(of(0, 0, 2), of(0, 0, 3), Double.doubleToLongBits(2.0 / 3.0));
        shares(second, of(MOST, MOST, MOST), Double.doubleToLongBits(1.0 / (2629746.0 * MOST + 86400.0 * MOST + MOST)));
    }

    private static void noughts() {
        long below = 1L << 63;
        Due.sentence(41, "as doubles divide: nought by something");
        shares(of(0, 0, 0), of(0, 0, 1), 0);
        shares(of(0, 0, 0), of(0, 0, -1), below);
        shares(of(1, -30, -37746), of(0, 0, -1), below);
        Due.sentence(41, "as doubles divide: something by nought");
        shares(of(0, 0, 1), of(0, 0, 0), 0x7ffL << 52);
        shares(of(0, 0, -1), of(0, 0, 0), 0xfffL << 52);
        shares(of(0, 0, -1), of(-1, 30, 37746), 0xfffL << 52);
        Due.sentence(41, "as doubles divide: nought by nought");
        shares(of(0, 0, 0), of(0, 0, 0), 0x7ff8L << 48);
        shares(of(1, -30, -37746), of(0, 1, -86400), 0x7ff8L << 48);
        Due.sentence(43, "LENGTH of s modulo that of t, as % of doubles tells: nought");
        rests(of(0, 0, 0), of(0, 0, 0), 0x7ff8L << 48);
        rests(of(0, 0, 1), of(0, 0, 0), 0x7ff8L << 48);
        rests(of(0, 0, -1), of(0, 0, 0), 0x7ff8L << 48);
        rests(of(0, 0, 0), of(0, 0, 1), 0);
        rests(of(0, 0, 0), of(0, 0, -1), 0);
        rests(of(0, 0, 6), of(0, 0, 3), 0);
        rests(of(0, 0, 6), of(0, 0, -3), 0);
        rests(of(0, 0, -6), of(0, 0, 3), below);
        rests(of(0, 0, -6), of(0, 0, -3), below);
    }

    private static int some(Random random) {
        int[] all = {0, 0, 1, -1, random.nextInt(21) - 10, random.nextInt(2001) - 1000, random.nextInt(2 * MOST + 1) - MOST,
            MOST, -MOST};
        return all[random.nextInt(all.length)];
    }

    private static void sharesDrawn() {
        Random random = new Random(41);
        for (int k = 0; k < 20000; k++) {
            int[] s = {some(random), some(random), some(random)};
            int[] t = {some(random), some(random), some(random)};
            DateSpans x = new DateSpans();
            x.parts(1, s[0], s[1], s[2]);
            x.parts(7, t[0], t[1], t[2]);
            Due.sentence(41, "doubleToLongBits of that of s by that of t");
            Due.same("share", x.share(1, 7), Double.doubleToLongBits(lengthOf(s) / lengthOf(t)));
            Due.sentence(43, "as % of doubles tells: doubleToLongBits");
            Due.same("rest", x.rest(1, 7), Double.doubleToLongBits(lengthOf(s) % lengthOf(t)));
            Due.sentence(44, "(LENGTH by 31556952.0, as doubles, then cast): floatToIntBits");
            Due.same("years", x.years(1), Float.floatToIntBits((float) (lengthOf(s) / 31556952.0)));
        }
    }

    private static void ranked(int[][] spans, long... row) {
        DateSpans x = Held.filled();
        for (int s = 0; s < 8; s++) {
            x.parts(s, spans[s][0], spans[s][1], spans[s][2]);
        }
        Held held = Held.of(x).row(row);
        Due.same("ranks()", x.ranks(), row[0]);
        held.ends("ranks()");
    }

    private static void ranks() {
        Due.sentence(42, "The eight SPANS by LENGTH, the least first");
        int[][] seconds = {{0, 0, 5}, {0, 0, -5}, {0, 0, 0}, {0, 0, 4}, {0, 0, -6}, {0, 0, 6}, {0, 0, 1}, {0, 0, -1}};
        ranked(seconds, 4, 1, 7, 2, 6, 3, 0, 5);
        int[][] mixed = {{1, 0, 0}, {0, 30, 37745}, {0, 30, 37747}, {0, 0, MOST}, {381, 0, 0}, {380, 0, 0}, {MOST, 0, 0}, {-MOST, MOST, MOST}};
        ranked(mixed, 7, 1, 0, 2, 5, 3, 4, 6);
        int[][] far = {{MOST, MOST, MOST}, {MOST, MOST, MOST - 1}, {-MOST, -MOST, -MOST}, {-MOST, -MOST, 1 - MOST},
            {MOST, MOST - 1, MOST}, {0, 0, 0}, {0, MOST, 0}, {0, -MOST, 0}};
        ranked(far, 2, 3, 7, 5, 6, 4, 1, 0);
    }

    private static void ranksOfLikeOnes() {
        Due.sentence(42, "of equal ones the lesser number: the first one; the ROW: all");
        int[][] none = new int[8][3];
        ranked(none, 0, 1, 2, 3, 4, 5, 6, 7);
        int[][] like = {{1, 0, 0}, {0, 30, 37746}, {0, 0, 86400}, {0, 1, 0}, {0, 0, 2629746}, {-1, 61, 75492}, {0, 0, 86399}, {0, 0, 86401}};
        ranked(like, 6, 2, 3, 7, 0, 1, 4, 5);
        int[][] turned = {{0, 0, 2}, {0, 0, 1}, {0, 0, 2}, {0, 0, 1}, {0, 0, 2}, {0, 0, 1}, {0, 0, 2}, {0, 0, 1}};
        ranked(turned, 1, 3, 5, 7, 0, 2, 4, 6);
    }

    private static void rest() {
        Due.sentence(43, "LENGTH of s modulo that of t, as % of doubles tells");
        rests(of(0, 0, 10), of(0, 0, 3), Double.doubleToLongBits(1.0));
        rests(of(0, 0, -10), of(0, 0, 3), Double.doubleToLongBits(-1.0));
        rests(of(0, 0, 10), of(0, 0, -3), Double.doubleToLongBits(1.0));
        rests(of(0, 0, 3), of(0, 0, 10), Double.doubleToLongBits(3.0));
        rests(of(1, 0, 0), of(0, 1, 0), Double.doubleToLongBits(37746.0));
        rests(of(MOST, MOST, MOST), of(0, 0, 7), Double.doubleToLongBits((2629746.0 * MOST + 86400.0 * MOST + MOST) % 7.0));
    }

    private static void isYears(int[] s, int due) {
        DateSpans x = two(s, of(7, 7, 7));
        Held held = Held.of(x);
        Due.same("years", x.years(1), due);
        held.ends("years");
    }

    private static void years() {
        Due.sentence(44, "LENGTH of s as a float, in years");
        isYears(of(12, 0, 0), Float.floatToIntBits(1.0f));
        isYears(of(-12, 0, 0), Float.floatToIntBits(-1.0f));
        isYears(of(6, 0, 0), Float.floatToIntBits(0.5f));
        isYears(of(24, 0, 0), Float.floatToIntBits(2.0f));
        isYears(of(0, 365, 20952), Float.floatToIntBits(1.0f));
        isYears(of(0, 0, 0), 0);
        isYears(of(1, -30, -37746), 0);
        Due.sentence(44, "(LENGTH by 31556952.0, as doubles, then cast)");
        isYears(of(0, 0, 1), Float.floatToIntBits((float) (1.0 / 31556952.0)));
        isYears(of(0, 0, -1), Float.floatToIntBits((float) (-1.0 / 31556952.0)));
        isYears(of(0, 365, 20951), Float.floatToIntBits((float) (31556951.0 / 31556952.0)));
        isYears(of(0, 365, 20953), Float.floatToIntBits((float) (31556953.0 / 31556952.0)));
        isYears(of(MOST, MOST, MOST), Float.floatToIntBits((float) (lengthOf(of(MOST, MOST, MOST)) / 31556952.0)));
        isYears(of(-MOST, -MOST, -MOST), Float.floatToIntBits((float) (lengthOf(of(-MOST, -MOST, -MOST)) / 31556952.0)));
    }

    // ---- promises 47 and 48

    private static void keeps() {
        Due.sentence(47, "All SLOTS are kept: true");
        DateSpans x = new DateSpans();
        Held.fill(x, 1);
        Due.yes("keeps()", x.keeps());
        Held.isFilled(x, 1);
        Held.fill(x, 2);
        Held.isFilled(x, 2);
        Due.yes("back()", x.back());
        Held.isFilled(x, 1);
        Due.sentence(47, "in place of what was");
        x = new DateSpans();
        Held.fill(x, 3);
        Due.yes("keeps()", x.keeps());
        Held.fill(x, 4);
        Due.yes("keeps()", x.keeps());
        Held.fill(x, 5);
        Due.yes("back()", x.back());
        Held.isFilled(x, 4);
        Due.yes("back()", x.back());
        Held.isFilled(x, 4);
    }

    private static void keepsNeither() {
        Due.sentence(47, "All SLOTS: neither the ROW nor THE TEXT");
        DateSpans x = Held.filled();
        Held held = Held.of(x);
        Due.yes("keeps()", x.keeps());
        held.still("keeps()");
        x.week(0);
        x.end(4);
        Due.yes("back()", x.back());
        Due.row(x, 1);
        Due.same("count(3)", x.count(3), 4);
        Due.same("span(0)", x.span(0), 14);
        Due.row(x, 14, 0, 0);
    }

    private static void back() {
        Due.sentence(48, "All SLOTS are as they were kept: true: one slot after the other");
        for (int i = 0; i < 8; i++) {
            DateSpans x = new DateSpans();
            Held.fill(x, 1);
            x.keeps();
            x.sets(i, 5, 5);
            x.parts(i, 5, 5, 5);
            Due.yes("back()", x.back());
            Held.isFilled(x, 1);
        }
        Due.sentence(48, "false: nothing is kept");
        DateSpans x = new DateSpans();
        Held.fill(x, 1);
        x.sorts();
        Due.type(x, "1y");
        Held held = Held.of(x);
        Due.no("back()", x.back());
        held.still("back()");
        Due.no("back() again", x.back());
        held.still("back() again");
    }

    private static void backAgain() {
        Due.sentence(48, "as they were kept: what is changed behind keeps(), or behind back(), is not kept");
        DateSpans x = new DateSpans();
        Due.yes("keeps() of SLOTS as at first", x.keeps());
        Held.fill(x, 1);
        Due.yes("back()", x.back());
        Due.same("count(0)", x.count(0), 0);
        Due.same("count(1)", x.count(1), 0);
        Held.fill(x, 2);
        Due.yes("back() again", x.back());
        Due.same("count(0)", x.count(0), 0);
        Due.same("count(1)", x.count(1), 0);
        Held.fill(x, 3);
        Due.yes("keeps()", x.keeps());
        x.turn(3, 3);
        x.floors(3, 5, 4);
        Due.yes("back()", x.back());
        Held.isFilled(x, 3);
    }

    // ---- promise 49

    private static void countMoments() {
        Due.sentence(49, "0: SLOTS whose MOMENT is not DAY 0, SECOND 0 (bits)");
        for (int i = 0; i < 8; i++) {
            DateSpans x = new DateSpans();
            x.sets(i, 0, 1);
            Due.same("count(0) of SECOND 1 in " + i, x.count(0), 1 << i);
            x.sets(i, 1, 0);
            Due.same("count(0) of DAY 1 in " + i, x.count(0), 1 << i);
            x.sets(i, LAST, 86399);
            Due.same("count(0) of the last one in " + i, x.count(0), 1 << i);
            x.sets(i, 0, 0);
            Due.same("count(0) of the first one in " + i, x.count(0), 0);
            Due.same("count(1)", x.count(1), 0);
        }
        DateSpans x = Held.filled();
        Due.same("count(0) of all", x.count(0), 255);
        x.sets(3, 0, 0);
        Due.same("count(0) of all but one", x.count(0), 247);
    }

    private static void countSpans() {
        Due.sentence(49, "1: SLOTS whose SPAN is something (bits)");
        for (int s = 0; s < 8; s++) {
            DateSpans x = new DateSpans();
            for (int[] one : new int[][] {{1, 0, 0}, {0, 1, 0}, {0, 0, 1}, {-1, 0, 0}, {0, -1, 0}, {0, 0, -1}, {1, -1, 0}}) {
                x.parts(s, one[0], one[1], one[2]);
                Due.same("count(1) of " + s, x.count(1), 1 << s);
                x.parts(s, 0, 0, 0);
                Due.same("count(1) of nothing in " + s, x.count(1), 0);
            }
            Due.same("count(0)", x.count(0), 0);
        }
        DateSpans x = Held.filled();
        Due.same("count(1) of all", x.count(1), 255);
    }

    private static void countRowAndText() {
        Due.sentence(49, "2: numbers of the ROW");
        DateSpans x = new DateSpans();
        Due.same("count(2)", x.count(2), 0);
        x.week(0);
        Due.same("count(2)", x.count(2), 1);
        x.sorts();
        Due.same("count(2)", x.count(2), 8);
        x.age(0, 0);
        Due.same("count(2)", x.count(2), 2);
        Due.sentence(49, "3: signs of THE TEXT");
        for (int k = 1; k <= 25; k++) {
            x.sign(0);
            Due.same("count(3)", x.count(3), 4 * k);
        }
        x.end(99);
        Due.same("count(3)", x.count(3), 99);
        x.moment(0);
        Due.same("count(3)", x.count(3), 0);
        x.sign(0);
        x.span(0);
        Due.same("count(3)", x.count(3), 0);
        Due.sentence(49, "NONE for another what");
        for (int what : of(-1, 4, Integer.MIN_VALUE, Integer.MAX_VALUE)) {
            Due.same("count(" + what + ")", x.count(what), -1);
        }
    }

    // ---- promise 50

    private static void row() {
        Due.sentence(50, "NoSuchElementException: none such");
        DateSpans x = new DateSpans();
        for (int i : of(-1, 0, 1, 7, 8, Integer.MIN_VALUE, Integer.MAX_VALUE)) {
            Due.throwsAt(x, i);
        }
        Due.sentence(50, "Number i of the ROW: the first one, the last one, one behind it");
        x.week(0);
        Due.same("row(0)", x.row(0), 1);
        Due.throwsAt(x, 1);
        Due.throwsAt(x, -1);
        x.sorts();
        for (int i = 0; i < 8; i++) {
            Due.same("row(" + i + ")", x.row(i), i);
        }
        Due.throwsAt(x, 8);
        Due.sentence(50, "none such: numbers of a longer ROW that was ahead of it");
        x.week(0);
        for (int i = 1; i < 9; i++) {
            Due.throwsAt(x, i);
        }
    }

    private static void rowNumbers() {
        Due.sentence(0, "ROW of numbers: told last by a call that says so");
        DateSpans x = new DateSpans();
        x.sets(1, LAST, 86399);
        x.parts(1, 1, 2, 3);
        x.overlaps(0, 1, 0, 1);
        Due.row(x, 0, 0);
        x.overlaps(0, 0, 1, 1);
        Due.row(x, 315537897599L, 315537897599L);
        x.sum(1, 1, 2);
        Due.row(x, 2, 4, 6);
        x.add(1, 1, 0, 0, 3);
        Due.row(x, 2, 4, 6);
        x.add(0, 1, 0, 0, 3);
        Due.row(x, 3, 0);
    }

    /** A number below 0 that is meant tells its row; the same number that refuses does not. */
    private static void rowBelowNought() {
        Due.sentence(0, "The ROW stays with each answer below 0, but where such a number is meant");
        for (int months : of(1, 2, 9, 21, 24, 30)) {
            DateSpans x = Held.filled();
            x.parts(1, months, 0, 0);
            Held held = Held.of(x).span(5, -months, 0, 0).row(-months, 0, 0);
            Due.same("turn", x.turn(1, 5), -months);
            held.ends("turn to -" + months + " months");
            x = Held.filled();
            x.parts(1, -months, 0, 0);
            x.parts(2, 0, 0, 0);
            held = Held.of(x).span(5, -months, 0, 0).row(-months, 0, 0);
            Due.same("sum", x.sum(1, 2, 5), -months);
            held.ends("sum to -" + months + " months");
            x = Held.filled();
            x.parts(1, -months, 0, 0);
            held = Held.of(x).span(5, -months, 0, 0).row(-months, 0, 0);
            Due.same("mult", x.mult(1, 1, 5), -months);
            held.ends("mult to -" + months + " months");
            x = Held.filled();
            x.parts(1, -months, 0, 0);
            held = Held.of(x).span(5, -months, 0, 0).row(-months, 0, 0);
            Due.same("even", x.even(1, 5), -months);
            held.ends("even of -" + months + " months");
        }
    }
}
