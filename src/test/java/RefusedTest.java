/**
 * Terms 2 over the whole face: each number that a call is given, one value on each side of each of its
 * bounds; which answer below 0 comes first; and what the object holds behind every kind of answer.
 */
public final class RefusedTest {
    private static final int LAST = 3652058;
    private static final int NONE = -1;
    private static final int FREE = Integer.MIN_VALUE;
    private static final int[] SLOT = {0, 7};
    private static final int[] LAW = {0, 3};
    private static final int[] ORDER = {0, 1};
    private static final int[] DAY = {0, LAST};
    private static final int[] WEEKDAY = {0, 6};
    private static final int[] PART = {-1000000000, 1000000000};
    private static final int[] ANY = {FREE, Integer.MAX_VALUE};

    private interface Call {
        long of(DateSpans x, int[] a);
    }

    /** A call, what it answers if it is refused, numbers it takes, and the bounds of each of them. */
    private record Kind(String name, long refusal, Call call, int[] good, int[]... bounds) {
        long on(DateSpans x, int[] a) {
            return call.of(x, a);
        }

        String told(int[] a) {
            return name + java.util.Arrays.toString(a);
        }
    }

    private RefusedTest() {
    }

    public static void main(String[] args) {
        for (Kind kind : kinds()) {
            bounds(kind);
        }
        several();
        texts();
        failing();
        failingPhrase();
        noRowNumber();
        asking();
        changing();
        Due.ends("RefusedTest");
    }

    private static Kind kind(String name, Call call, int[] good, int[]... bounds) {
        return new Kind(name, NONE, call, good, bounds);
    }

    private static int[] of(int... numbers) {
        return numbers;
    }

    private static long bit(boolean b) {
        return b ? 1 : 0;
    }

    private static Kind[] kinds() {
        return new Kind[] {
            kind("sets", (x, a) -> x.sets(a[0], a[1], a[2]), of(1, 5, 5), SLOT, DAY, of(0, 86399)),
            new Kind("parts", 0, (x, a) -> bit(x.parts(a[0], a[1], a[2], a[3])), of(1, 5, 5, 5), SLOT, PART, PART, PART),
            kind("momentIs", (x, a) -> x.momentIs(a[0], a[1]), of(1, 2), SLOT, of(0, 6)),
            new Kind("spanIs", -2000000000, (x, a) -> x.spanIs(a[0], a[1]), of(1, 1), SLOT, of(0, 2)),
            kind("date", (x, a) -> x.date(a[0]), of(5), DAY),
            kind("week", (x, a) -> x.week(a[0]), of(5), DAY),
            kind("add", (x, a) -> x.add(a[0], a[1], a[2], a[3], a[4]), of(1, 2, 0, 0, 3), SLOT, SLOT, LAW, ORDER, SLOT),
            kind("steps", (x, a) -> x.steps(a[0], a[1], a[2], a[3], a[4], a[5]), of(1, 2, 0, 0, 3, 4),
                    SLOT, SLOT, LAW, ORDER, of(0, 10000), SLOT),
            kind("sum", (x, a) -> x.sum(a[0], a[1], a[2]), of(1, 2, 3), SLOT, SLOT, SLOT),
            kind("turn", (x, a) -> x.turn(a[0], a[1]), of(1, 2), SLOT, SLOT),
            kind("mult", (x, a) -> x.mult(a[0], a[1], a[2]), of(1, 3, 2), SLOT, ANY, SLOT),
            kind("even", (x, a) -> x.even(a[0], a[1]), of(1, 2), SLOT, SLOT),
            kind("between", (x, a) -> x.between(a[0], a[1], a[2], a[3], a[4]), of(1, 2, 0, 7, 3),
                    SLOT, SLOT, LAW, of(1, 7), SLOT),
            kind("least", (x, a) -> x.least(a[0], a[1], a[2]), of(1, 2, 0), SLOT, SLOT, LAW),
            kind("age", (x, a) -> x.age(a[0], a[1]), of(1, 2), SLOT, SLOT),
            kind("compare", (x, a) -> x.compare(a[0], a[1], a[2]), of(1, 2, 0), SLOT, SLOT, LAW),
            kind("lasts", (x, a) -> x.lasts(a[0], a[1]), of(1, 0), SLOT, LAW),
            kind("fails", (x, a) -> x.fails(a[0], a[1], a[2], a[3], a[4]), of(1, 1, 2, 0, 5), of(0, 3), SLOT, SLOT, LAW, DAY),
            kind("often", (x, a) -> x.often(a[0], a[1], a[2], a[3]), of(1, 1, 2, 0), of(0, 3), SLOT, SLOT, LAW),
            kind("drift", (x, a) -> x.drift(a[0], a[1], a[2], a[3]), of(1, 2, 0, 3), SLOT, SLOT, LAW, of(0, 1000)),
            kind("runs", (x, a) -> x.runs(a[0], a[1], a[2], a[3]), of(1, 2, 0, 3), SLOT, SLOT, LAW, of(1, 1000)),
            kind("next", (x, a) -> x.next(a[0], a[1], a[2], a[3]), of(1, 2, 0, 3), SLOT, SLOT, LAW, SLOT),
            kind("falls", (x, a) -> x.falls(a[0], a[1], a[2], a[3], a[4]), of(1, 2, 0, 3, 4),
                    SLOT, SLOT, LAW, of(0, 1000), WEEKDAY),
            kind("nth", (x, a) -> x.nth(a[0], a[1], a[2], a[3]), of(2024, 2, 3, 1), of(1, 9999), of(1, 12), WEEKDAY, of(-5, 5)),
            kind("nth", (x, a) -> x.nth(a[0], a[1], a[2], a[3]), of(2024, 2, 3, 1), ANY, ANY, ANY, of(1, 5)),
            kind("nth", (x, a) -> x.nth(a[0], a[1], a[2], -1 - a[3]), of(2024, 2, 3, 1), ANY, ANY, ANY, of(0, 4)),
            kind("workdays", (x, a) -> x.workdays(a[0], a[1]), of(1, 2), SLOT, SLOT),
            kind("shifts", (x, a) -> x.shifts(a[0], a[1], a[2]), of(1, 3, 2), SLOT, of(-10000, 10000), SLOT),
            kind("overlaps", (x, a) -> x.overlaps(a[0], a[1], a[2], a[3]), of(1, 2, 3, 4), SLOT, SLOT, SLOT, SLOT),
            kind("leaps", (x, a) -> x.leaps(a[0], a[1]), of(1, 2), SLOT, SLOT),
            kind("again", (x, a) -> x.again(a[0], a[1]), of(1, 2), SLOT, of(1, 100)),
            kind("whole", (x, a) -> x.whole(a[0], a[1]), of(1, 2), SLOT, SLOT),
            kind("floors", (x, a) -> x.floors(a[0], a[1], a[2]), of(1, 2, 3), SLOT, of(0, 5), SLOT),
            kind("part", (x, a) -> x.part(a[0], a[1], a[2], a[3], a[4]), of(1, 2, 3, 7, 4), SLOT, SLOT, of(0, 7), ANY, SLOT),
            kind("part", (x, a) -> x.part(a[0], a[1], a[2], a[3], a[4]), of(1, 2, 1, 7, 4), ANY, ANY, ANY, of(1, 1000), ANY),
            kind("part", (x, a) -> x.part(a[0], a[1], a[2], a[3], a[4]), of(1, 2, 0, 7, 4), ANY, ANY, ANY, of(1, 1000), ANY),
            kind("mean", (x, a) -> x.mean(a[0]), of(3), of(1, 255)),
            kind("share", (x, a) -> x.share(a[0], a[1]), of(1, 2), SLOT, SLOT),
            kind("rest", (x, a) -> x.rest(a[0], a[1]), of(1, 2), SLOT, SLOT),
            kind("years", (x, a) -> x.years(a[0]), of(1), SLOT),
            kind("written", (x, a) -> x.written(a[0], a[1]), of(1, NONE), SLOT, of(NONE, 18)),
            kind("phrase", (x, a) -> x.phrase(a[0], a[1]), of(1, NONE), SLOT, of(NONE, 13)),
            kind("count", (x, a) -> x.count(a[0]), of(1), of(0, 3)),
        };
    }

    // ---- bounds

    private static int[] with(int[] numbers, int k, int number) {
        int[] all = numbers.clone();
        all[k] = number;
        return all;
    }

    private static int[] outside(int[] bounds) {
        if (bounds[0] == FREE) {
            return of();
        }
        return of(bounds[0] - 1, bounds[1] + 1, Integer.MIN_VALUE, Integer.MAX_VALUE);
    }

    private static void bounds(Kind kind) {
        Due.sentence(0, "Refused calls answer NONE, or false, and change nothing");
        for (int k = 0; k < kind.bounds.length; k++) {
            for (int number : outside(kind.bounds[k])) {
                refused(kind, Held.filled(), with(kind.good, k, number));
            }
            for (int number : kind.bounds[k]) {
                if (kind.bounds[k][0] != FREE) {
                    int[] a = with(kind.good, k, number);
                    long answer = kind.on(Held.filled(), a);
                    Due.yes(kind.told(a) + " answered " + answer + ", it is taken", answer != kind.refusal);
                }
            }
        }
    }

    private static void refused(Kind kind, DateSpans x, int[] a) {
        Held held = Held.of(x);
        Due.same(kind.told(a), kind.on(x, a), kind.refusal);
        held.ends(kind.told(a));
    }

    /** Two wrong numbers are refused as one is. */
    private static void several() {
        Due.sentence(0, "Refused calls, two reasons at once");
        for (Kind kind : kinds()) {
            for (int k = 0; k < kind.bounds.length; k++) {
                for (int j = 0; j < k; j++) {
                    if (kind.bounds[k][0] != FREE && kind.bounds[j][0] != FREE) {
                        int[] a = with(with(kind.good, k, kind.bounds[k][0] - 1), j, kind.bounds[j][1] + 1);
                        refused(kind, Held.filled(), a);
                    }
                }
            }
        }
    }

    // ---- texts

    private static DateSpans typed(String text) {
        DateSpans x = Held.filled();
        Due.type(x, text);
        return x;
    }

    private static void texts() {
        Due.sentence(0, "change nothing but THE TEXT, which a call that can read it empties, whatever it answers");
        for (int slot : of(-1, 8, Integer.MIN_VALUE, Integer.MAX_VALUE)) {
            reads("2024-02-29", slot, -1, "1y", -1);
            Due.sentence(0, "Of several answers below 0 that fit: -21 - p comes first, then NONE");
            reads("2024-02-30", slot, -21 - 8, "1y1", -21 - 3);
            reads("", slot, -21, "", -21);
        }
        Due.sentence(0, "The ROW stays with each answer below 0");
        for (int slot : SLOT) {
            reads("2024-02-30", slot, -21 - 8, "1y1", -21 - 3);
            reads("", slot, -21, "", -21);
        }
    }

    private static void reads(String moment, int slot, int momentDue, String span, int spanDue) {
        DateSpans x = typed(moment);
        Held held = Held.of(x).noText();
        Due.same("moment(" + slot + ") of " + moment, x.moment(slot), momentDue);
        held.ends("moment(" + slot + ") of " + moment);
        x = typed(span);
        held = Held.of(x).noText();
        Due.same("span(" + slot + ") of " + span, x.span(slot), spanDue);
        held.ends("span(" + slot + ") of " + span);
    }

    // ---- calls that fail

    private static Kind named(String name) {
        for (Kind kind : kinds()) {
            if (kind.name.equals(name)) {
                return kind;
            }
        }
        throw new IllegalStateException(name);
    }

    private static void fails(String name, int due, DateSpans x, DateSpans y, int... a) {
        Kind kind = named(name);
        Due.sentence(0, "The ROW stays with each answer below 0");
        Held held = Held.of(x);
        Due.same(kind.told(a), kind.on(x, a), due);
        held.ends(kind.told(a));
        Due.sentence(0, "Of several answers below 0 that fit: .. NONE, then the others");
        held = Held.of(y);
        for (int k = 0; k < a.length; k++) {
            for (int number : outside(kind.bounds[k])) {
                int[] wrong = with(a, k, number);
                Due.same(kind.told(wrong), kind.on(y, wrong), NONE);
            }
        }
        held.ends(name + " with wrong numbers");
    }

    private static void failsWith(String name, int due, int[] all, int... a) {
        fails(name, due, Held.filledWith(all[0], all[1], all[2], all[3], all[4]),
                Held.filledWith(all[0], all[1], all[2], all[3], all[4]), a);
    }

    private static DateSpans laterSlot() {
        DateSpans x = Held.filledWith(5, 5, 0, 0, 0);
        x.sets(3, 5, 6);
        return x;
    }

    private static void failing() {
        failsWith("add", -2, of(LAST, 0, 0, 1, 0), 1, 2, 0, 0, 3);
        failsWith("add", -2, of(0, 0, 0, 0, -1), 1, 2, 3, 1, 1);
        failsWith("steps", -2, of(LAST - 1, 0, 0, 1, 0), 1, 2, 0, 0, 2, 3);
        failsWith("sum", -9, of(0, 0, 0, 500000001, 0), 1, 2, 3);
        failsWith("mult", -9, of(0, 0, 0, 0, -500000001), 1, 2, 3);
        failsWith("even", -9, of(0, 0, 0, 1000000000, 86400), 1, 3);
        failsWith("lasts", -2, of(0, 0, 0, 1000000000, 0), 1, 0);
        failsWith("fails", -2, of(0, 0, 0, 3, 0), 1, 1, 2, 0, 0);
        failsWith("fails", -9, of(0, 0, 0, 0, 500000001), 2, 1, 2, 0, 0);
        failsWith("often", -9, of(0, 0, 0, 0, 500000001), 2, 1, 2, 0);
        failsWith("drift", -1000009, of(LAST, 0, 1000001, 0, 0), 1, 2, 0, 1000);
        failsWith("drift", -1000002, of(LAST - 1, 0, 0, 1, 0), 1, 2, 0, 2);
        failsWith("runs", -1000009, of(LAST, 0, 1000001, 0, 0), 1, 2, 0, 1000);
        failsWith("runs", -1000002, of(LAST - 1, 0, 0, 1, 0), 1, 2, 0, 2);
        fails("next", -2, laterSlot(), laterSlot(), 1, 2, 0, 3);
        fails("nth", -2, Held.filled(), Held.filled(), 2024, 2, 0, 5);
        failsWith("shifts", -2, of(LAST, 0, 0, 0, 0), 1, 1, 2);
        failsWith("shifts", -2, of(0, 0, 0, 0, 0), 1, -1, 2);
        failsWith("again", -2, of(LAST, 0, 0, 0, 0), 1, 1);
    }

    /** No sign has a k beyond NONE; of those from NONE on -2 is told. */
    private static void failingPhrase() {
        Due.sentence(46, "-2: a number of it would have more than 5 digits (k NONE or more); NONE: no such sign");
        for (int k : of(-1, 0, 1, 99, Integer.MAX_VALUE)) {
            phrase(0, k, -2);
        }
        phrase(0, -2, NONE);
        phrase(0, Integer.MIN_VALUE, NONE);
        for (int slot : of(-1, 8)) {
            phrase(slot, -1, NONE);
            phrase(slot, 0, NONE);
            phrase(slot, -2, NONE);
        }
    }

    private static void phrase(int slot, int k, int due) {
        DateSpans x = Held.filledWith(0, 0, 1200000, 0, 0);
        Held held = Held.of(x);
        Due.same("phrase(" + slot + ", " + k + ")", x.phrase(slot, k), due);
        held.ends("phrase");
    }

    private static void noRowNumber() {
        Due.sentence(50, "NoSuchElementException: none such");
        DateSpans x = Held.filled();
        Held held = Held.of(x);
        for (int k : of(-1, 8, Integer.MIN_VALUE, Integer.MAX_VALUE)) {
            Due.throwsAt(x, k);
        }
        held.ends("row");
    }

    // ---- calls that ask, and calls that change one slot

    private static void asks(String name, int numbers, int... a) {
        Kind kind = named(name);
        DateSpans x = Held.filled();
        Held held = Held.of(x);
        kind.on(x, a);
        if (numbers >= 0) {
            Due.same(kind.told(a) + ", then count(2)", x.count(2), numbers);
            held.row(rowOf(x));
        }
        held.ends(kind.told(a));
    }

    private static long[] rowOf(DateSpans x) {
        long[] row = new long[x.count(2)];
        for (int k = 0; k < row.length; k++) {
            row[k] = x.row(k);
        }
        return row;
    }

    private static void asking() {
        Due.sentence(0, "Calls that ask change nothing but the ROW");
        asks("week", 1, 5);
        asks("least", 2, 1, 2, 0);
        asks("age", 2, 1, 2);
        asks("compare", 6, 1, 2, 0);
        asks("lasts", 5, 1, 0);
        asks("fails", 2, 1, 1, 2, 0, 5);
        asks("often", 2, 1, 1, 2, 0);
        asks("drift", 2, 1, 2, 0, 3);
        asks("runs", 3, 1, 2, 0, 3);
        asks("next", 2, 1, 2, 0, 2);
        asks("falls", 1, 1, 2, 0, 3, 4);
        asks("workdays", 7, 1, 2);
        asks("overlaps", 2, 1, 2, 3, 4);
        asks("leaps", 2, 1, 2);
        asks("again", 1, 1, 2);
        asks("whole", 2, 1, 2);
        asks("mean", 3, 7);
        Due.sentence(0, "The ROW stays .. with calls that do not tell of it");
        asks("momentIs", -1, 1, 2);
        asks("spanIs", -1, 1, 2);
        asks("date", -1, 5);
        asks("nth", -1, 2024, 2, 3, 1);
        asks("share", -1, 1, 2);
        asks("rest", -1, 1, 2);
        asks("years", -1, 1);
        asks("written", -1, 1, 3);
        asks("written", -1, 1, -1);
        asks("phrase", -1, 1, 3);
        asks("phrase", -1, 1, -1);
        for (int what = 0; what < 4; what++) {
            asks("count", -1, what);
        }
        asksOthers();
    }

    private static void asksOthers() {
        DateSpans x = Held.filled();
        Held held = Held.of(x);
        x.day(20240229);
        x.day(20230229);
        x.row(3);
        Due.same("sorts()", x.sorts(), 0);
        held.row(0, 3, 6, 1, 4, 7, 2, 5).still("sorts()");
        Due.same("ranks()", x.ranks(), 0);
        held.row(0, 1, 2, 3, 4, 5, 6, 7).ends("ranks()");
    }

    private static void changing() {
        Due.sentence(0, "a call changes the SLOT that it is told to, and no other");
        puts("add", true, 5, 2, 1, 2, 0, 0, 5);
        puts("steps", true, 5, 2, 1, 2, 0, 0, 3, 5);
        puts("shifts", true, 5, 1, 1, 3, 5);
        puts("floors", true, 5, 2, 1, 3, 5);
        puts("part", true, 5, 1, 1, 2, 3, 7, 5);
        puts("sum", false, 5, 3, 1, 2, 5);
        puts("turn", false, 5, 3, 1, 5);
        puts("mult", false, 5, 3, 1, 3, 5);
        puts("even", false, 5, 3, 1, 5);
        puts("between", false, 5, 4, 1, 2, 0, 7, 5);
        Due.sentence(0, "The ROW stays .. with calls that do not tell of it");
        puts("sets", true, 5, -1, 5, 9, 9);
        puts("parts", false, 5, -1, 5, 9, 9, 9);
        for (int slot : SLOT) {
            momentRead(slot);
            spanRead(slot);
        }
        keptCalls();
    }

    private static void puts(String name, boolean moment, int to, int numbers, int... a) {
        Kind kind = named(name);
        DateSpans x = Held.filled();
        Held held = Held.of(x);
        kind.on(x, a);
        if (moment) {
            held.moment(to, x.momentIs(to, 0), x.momentIs(to, 1));
        } else {
            held.span(to, x.spanIs(to, 0), x.spanIs(to, 1), x.spanIs(to, 2));
        }
        if (numbers >= 0) {
            Due.same(kind.told(a) + ", then count(2)", x.count(2), numbers);
            held.row(rowOf(x));
        }
        held.ends(kind.told(a));
    }

    private static void momentRead(int slot) {
        DateSpans x = typed("2024-02-29T12:30:05");
        Held held = Held.of(x).moment(slot, 738944, 45005).noText();
        Due.same("moment(" + slot + ")", x.moment(slot), 738944);
        held.ends("moment(" + slot + ")");
    }

    private static void spanRead(int slot) {
        DateSpans x = typed("1y-2m3d4h");
        Held held = Held.of(x).span(slot, 10, 3, 14400).row(10, 3, 14400).noText();
        Due.same("span(" + slot + ")", x.span(slot), 10);
        held.ends("span(" + slot + ")");
    }

    private static void keptCalls() {
        Due.sentence(0, "The ROW stays .. with calls that do not tell of it");
        DateSpans x = Held.filled();
        Held held = Held.of(x);
        Due.no("end(9)", x.end(9));
        Due.no("end(-1)", x.end(-1));
        Due.yes("end(8)", x.end(8));
        held.still("end(8)");
        Due.yes("keeps()", x.keeps());
        held.still("keeps()");
        Due.yes("back()", x.back());
        held.still("back()");
        Due.same("span(0)", x.span(0), 14);
    }
}
