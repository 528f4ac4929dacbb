import java.util.Arrays;
import java.util.NoSuchElementException;
import java.util.Random;

/**
 * Runs of calls drawn by a fixed seed, made on DateSpans and on Model alike: every answer, the row
 * and the counts behind each call, and all slots at the end of each run must be the same.
 */
public final class ModelTest {
    private static final int[] DAYS_OF_NOTE = {0, 1, 30, 58, 59, 364, 365, 3652058, 3652057, 3652028,
        738944, 738915, 738914, 738916, 738945, 730119, 730178, 876215, 693654, 693655, 730515};

    private final Random random;
    private DateSpans real;
    private Model model;
    private String call;
    private int wrong = 0;

    private ModelTest(long seed) {
        random = new Random(seed);
    }

    public static void main(String[] args) {
        ModelTest test = new ModelTest(20240229);
        test.allCalendar();
        for (int run = 0; run < 4000 && test.wrong < 20; run++) {
            test.run(run);
        }
        for (int k = 0; k < 160 && test.wrong < 20; k++) {
            test.sweep();
        }
        System.out.println(test.wrong == 0 ? "as the model" : test.wrong + " answers unlike the model");
        if (test.wrong != 0) {
            System.exit(1);
        }
    }

    private void same(String what, long got, long want) {
        if (got != want) {
            wrong++;
            System.out.println(call + " " + what + ": " + got + ", the model: " + want);
        }
    }

    // ---- every day there is

    private void allCalendar() {
        java.time.LocalDate date = java.time.LocalDate.of(1, 1, 1);
        for (int day = 0; day <= Model.LAST && wrong < 20; day++) {
            if (day % 200 == 0) {
                real = new DateSpans();
            }
            int number = date.getYear() * 10000 + date.getMonthValue() * 100 + date.getDayOfMonth();
            call = "of the calendar";
            same("date", real.date(day), number);
            same("day", real.day(number), day);
            date = date.plusDays(1);
        }
    }

    // ---- drawn numbers

    private int any(int low, int high) {
        return low + random.nextInt(high - low + 1);
    }

    private boolean seldom() {
        return random.nextInt(40) == 0;
    }

    private int slot() {
        return seldom() ? (random.nextBoolean() ? -1 : 8) : any(0, random.nextInt(3) == 0 ? 7 : 3);
    }

    private int law() {
        return seldom() ? (random.nextBoolean() ? -1 : 4) : any(0, 3);
    }

    private int order() {
        return seldom() ? (random.nextBoolean() ? -1 : 2) : any(0, 1);
    }

    private int day() {
        if (seldom()) {
            return random.nextBoolean() ? -1 : Model.LAST + 1;
        }
        switch (random.nextInt(5)) {
            case 0:
                return DAYS_OF_NOTE[random.nextInt(DAYS_OF_NOTE.length)];
            case 1:
                return any(0, Model.LAST);
            case 2:
                return Model.dayOf(java.time.YearMonth.of(any(1995, 2030), any(1, 12)).atEndOfMonth());
            case 3:
                return random.nextBoolean() ? any(0, 800) : Model.LAST - any(0, 800);
            default:
                return any(738000, 740000);
        }
    }

    private int second() {
        if (seldom()) {
            return random.nextBoolean() ? -1 : 86400;
        }
        int[] some = {0, 0, 0, 86399, 43200, any(0, 86399), any(0, 86399)};
        return some[random.nextInt(some.length)];
    }

    private int months() {
        int[] some = {0, 0, 1, -1, 12, -12, any(-30, 30), any(-30, 30), any(-1300, 1300), any(-120000, 120000)};
        return seldom() ? bound() : some[random.nextInt(some.length)];
    }

    private int days() {
        int[] some = {0, 0, 0, 1, -1, any(-40, 40), any(-40, 40), any(-900, 900), any(-3700000, 3700000)};
        return seldom() ? bound() : some[random.nextInt(some.length)];
    }

    private int seconds() {
        int[] some = {0, 0, 0, 1, -1, 86400, any(-200000, 200000), any(-90000000, 90000000)};
        return seldom() ? bound() : some[random.nextInt(some.length)];
    }

    private int bound() {
        int[] some = {1000000000, -1000000000, 1000000001, -1000000001, 500000000, -500000000,
            500000001, -500000001, any(-1000000000, 1000000000)};
        return some[random.nextInt(some.length)];
    }

    private int within(int low, int high) {
        if (seldom()) {
            return random.nextBoolean() ? low - 1 : high + 1;
        }
        return random.nextInt(3) == 0 ? any(low, high) : any(low, Math.min(high, low + 20));
    }

    // ---- texts

    private String momentText() {
        String text = Model.dateOf(Math.floorMod(day(), Model.LAST + 1)).toString();
        if (random.nextBoolean()) {
            text += String.format("T%02d:%02d:%02d", any(0, 23), any(0, 59), any(0, 59));
        }
        return marred(text, "0123456789-T:t 9");
    }

    private String spanText() {
        StringBuilder text = new StringBuilder();
        for (char unit : "ymwdhis".toCharArray()) {
            if (random.nextInt(3) == 0) {
                int[] some = {0, any(0, 9), any(10, 999), any(1000, 99999), 99999};
                text.append(random.nextInt(4) == 0 ? "-" : "").append(some[random.nextInt(5)]).append(unit);
            }
        }
        return marred(text.toString(), "0123456789-ymwdhis s");
    }

    private String marred(String text, String signs) {
        StringBuilder marred = new StringBuilder(text);
        int times = random.nextInt(3) == 0 ? 1 : 0;
        for (int k = 0; k < times; k++) {
            char sign = seldom() ? (char) any(0, 255) : signs.charAt(random.nextInt(signs.length()));
            int at = random.nextInt(marred.length() + 1);
            int kind = random.nextInt(4);
            if (kind == 0) {
                marred.insert(at, sign);
            } else if (kind == 1) {
                marred.setLength(at);
            } else if (at < marred.length()) {
                marred.setCharAt(at, sign);
            }
        }
        return marred.toString();
    }

    private void type(String text) {
        int had = model.text.length();
        for (int k = 0; k < text.length(); k += 4) {
            int v = 0;
            for (int j = k; j < k + 4; j++) {
                v = v << 8 | (j < text.length() ? text.charAt(j) : 0);
            }
            same("sign", real.sign(v), model.sign(v));
        }
        int end = had + text.length();
        same("end", real.end(end) ? 1 : 0, model.end(end) ? 1 : 0);
    }

    // ---- runs

    private void run(int run) {
        real = new DateSpans();
        model = new Model();
        call = "run " + run + " fill";
        for (int i = 0; i < 4; i++) {
            int day = day();
            int second = second();
            same("sets", real.sets(i, day, second), model.sets(i, day, second));
            int months = months();
            int days = days();
            int seconds = seconds();
            same("parts", real.parts(i, months, days, seconds) ? 1 : 0,
                    model.parts(i, months, days, seconds) ? 1 : 0);
        }
        for (int k = 0; k < 18; k++) {
            call = "run " + run + " call " + k;
            one(random.nextInt(46));
            rows();
        }
        slots();
    }

    private void rows() {
        for (int what = 0; what < 4; what++) {
            same("count " + what, real.count(what), model.count(what));
        }
        for (int k = 0; k < model.row.length; k++) {
            same("row " + k, rowAt(k), model.row[k]);
        }
    }

    private long rowAt(int k) {
        try {
            return real.row(k);
        } catch (NoSuchElementException e) {
            return Long.MIN_VALUE;
        }
    }

    private void slots() {
        for (int i = 0; i < 8; i++) {
            same("moment " + i, real.momentIs(i, 0) * 86400L + real.momentIs(i, 1), model.moments[i]);
            for (int what = 0; what < 3; what++) {
                same("span " + i, real.spanIs(i, what), model.spans[i][what]);
            }
        }
    }

    private void told(String name, long[] args, long got, long want) {
        call += " " + name + Arrays.toString(args);
        same("answered", got, want);
    }

    private static long bit(boolean b) {
        return b ? 1 : 0;
    }

    private void one(int which) {
        int i = slot();
        int j = slot();
        int to = slot();
        int law = law();
        int order = order();
        if (which < 12) {
            texts(which, i);
        } else if (which < 24) {
            adds(which, i, j, to, law, order);
        } else if (which < 35) {
            turns(which, i, j, to, law);
        } else {
            others(which, i, j, to);
        }
    }

    private void texts(int which, int i) {
        int day = day();
        int what = within(0, 6);
        int v = random.nextInt();
        switch (which) {
            case 0:
            case 1:
                type(momentText());
                call += " text " + model.text;
                told("moment", new long[] {i}, real.moment(i), model.moment(i));
                break;
            case 2:
            case 3:
                type(spanText());
                call += " text " + model.text;
                told("span", new long[] {i}, real.span(i), model.span(i));
                break;
            case 4:
                told("sign", new long[] {v}, real.sign(v), model.sign(v));
                break;
            case 5:
                int n = any(-1, 9);
                told("end", new long[] {n}, bit(real.end(n)), bit(model.end(n)));
                break;
            case 6:
                int second = second();
                told("sets", new long[] {i, day, second}, real.sets(i, day, second), model.sets(i, day, second));
                break;
            case 7:
                int[] s = {months(), days(), seconds()};
                told("parts", new long[] {i, s[0], s[1], s[2]}, bit(real.parts(i, s[0], s[1], s[2])),
                        bit(model.parts(i, s[0], s[1], s[2])));
                break;
            case 8:
                told("momentIs", new long[] {i, what}, real.momentIs(i, what), model.momentIs(i, what));
                break;
            case 9:
                told("spanIs", new long[] {i, what}, real.spanIs(i, what), model.spanIs(i, what));
                break;
            case 10:
                int date = any(1, 10050) * 10000 + any(0, 13) * 100 + any(0, 32);
                told("day", new long[] {date}, real.day(date), model.day(date));
                told("date", new long[] {day}, real.date(day), model.date(day));
                break;
            default:
                told("week", new long[] {day}, real.week(day), model.week(day));
                break;
        }
    }

    private void adds(int which, int i, int j, int to, int law, int order) {
        long[] all = {i, j, law, order, to};
        switch (which) {
            case 12:
            case 13:
                told("add", all, real.add(i, j, law, order, to), model.add(i, j, law, order, to));
                break;
            case 14:
                int n = within(0, 10000);
                all = new long[] {i, j, law, order, n, to};
                told("steps", all, real.steps(i, j, law, order, n, to), model.steps(i, j, law, order, n, to));
                break;
            case 15:
                told("sum", new long[] {i, j, to}, real.sum(i, j, to), model.sum(i, j, to));
                break;
            case 16:
                told("turn", new long[] {i, to}, real.turn(i, to), model.turn(i, to));
                break;
            case 17:
                int k = random.nextBoolean() ? any(-20, 20) : random.nextInt();
                told("mult", new long[] {i, k, to}, real.mult(i, k, to), model.mult(i, k, to));
                break;
            case 18:
                told("even", new long[] {i, to}, real.even(i, to), model.even(i, to));
                break;
            case 19:
            case 20:
                int units = within(1, 7);
                all = new long[] {i, j, law, units, to};
                told("between", all, real.between(i, j, law, units, to), model.between(i, j, law, units, to));
                break;
            case 21:
                told("least", new long[] {i, j, law}, real.least(i, j, law), model.least(i, j, law));
                break;
            case 22:
                told("age", new long[] {i, j}, real.age(i, j), model.age(i, j));
                break;
            default:
                told("keeps", new long[0], bit(real.keeps()), bit(model.keeps()));
                break;
        }
    }

    private void turns(int which, int i, int j, int to, int law) {
        int n = within(0, 1000);
        int weekday = any(-1, 7);
        long[] all = {i, j, law, n};
        switch (which) {
            case 24:
                told("drift", all, real.drift(i, j, law, n), model.drift(i, j, law, n));
                break;
            case 25:
                told("runs", all, real.runs(i, j, law, n), model.runs(i, j, law, n));
                break;
            case 26:
                told("next", new long[] {i, j, law, to}, real.next(i, j, law, to), model.next(i, j, law, to));
                break;
            case 27:
                all = new long[] {i, j, law, n, weekday};
                told("falls", all, real.falls(i, j, law, n, weekday), model.falls(i, j, law, n, weekday));
                break;
            case 28:
                int[] y = {any(0, 10) == 0 ? any(9995, 10001) : any(0, 2030), any(0, 13), any(-6, 6)};
                told("nth", new long[] {y[0], y[1], weekday, y[2]}, real.nth(y[0], y[1], weekday, y[2]),
                        model.nth(y[0], y[1], weekday, y[2]));
                break;
            case 29:
                told("workdays", new long[] {i, j}, real.workdays(i, j), model.workdays(i, j));
                break;
            case 30:
                int by = random.nextBoolean() ? any(-12, 12) : any(-10002, 10002);
                told("shifts", new long[] {i, by, to}, real.shifts(i, by, to), model.shifts(i, by, to));
                break;
            case 31:
                int d = slot();
                told("overlaps", new long[] {i, j, to, d}, real.overlaps(i, j, to, d), model.overlaps(i, j, to, d));
                break;
            case 32:
                told("leaps", new long[] {i, j}, real.leaps(i, j), model.leaps(i, j));
                break;
            case 33:
                int times = within(1, 100);
                told("again", new long[] {i, times}, real.again(i, times), model.again(i, times));
                break;
            default:
                told("whole", new long[] {i, j}, real.whole(i, j), model.whole(i, j));
                break;
        }
    }

    private void others(int which, int i, int j, int to) {
        int what = any(-1, 6);
        int k = any(-2, 20);
        int n = within(1, 1000);
        switch (which) {
            case 35:
                told("floors", new long[] {i, what, to}, real.floors(i, what, to), model.floors(i, what, to));
                break;
            case 36:
                int of = any(-1, n + 1);
                told("part", new long[] {i, j, of, n, to}, real.part(i, j, of, n, to), model.part(i, j, of, n, to));
                break;
            case 37:
                int bits = any(-1, 257);
                told("mean", new long[] {bits}, real.mean(bits), model.mean(bits));
                break;
            case 38:
                told("sorts", new long[0], real.sorts(), model.sorts());
                break;
            case 39:
                told("share", new long[] {i, j}, real.share(i, j), model.share(i, j));
                break;
            case 40:
                told("ranks", new long[0], real.ranks(), model.ranks());
                break;
            case 41:
                told("rest", new long[] {i, j}, real.rest(i, j), model.rest(i, j));
                break;
            case 42:
                told("years", new long[] {i}, real.years(i), model.years(i));
                break;
            case 43:
                told("written", new long[] {i, k}, real.written(i, k), model.written(i, k));
                break;
            case 44:
                told("phrase", new long[] {i, k}, real.phrase(i, k), model.phrase(i, k));
                break;
            default:
                told("back", new long[0], bit(real.back()), bit(model.back()));
                break;
        }
    }

    // ---- calls that look at all starts: fewer, as they are slow in the model

    private void sweep() {
        real = new DateSpans();
        model = new Model();
        call = "sweep";
        for (int s = 0; s < 2; s++) {
            int[] some = {any(-15, 15), any(-15, 15), any(0, 3) == 0 ? any(-90000, 90000) : 0};
            some = any(0, 9) == 0 ? new int[] {months(), days(), seconds()} : some;
            some = any(0, 4) == 0 ? new int[] {0, any(-31, 62), 0} : some;
            real.parts(s, some[0], some[1], some[2]);
            model.parts(s, some[0], some[1], some[2]);
            call += " " + Arrays.toString(model.spans[s]);
        }
        int law = any(0, 3);
        int what = any(0, 3);
        int day = random.nextInt(20) == 0 ? any(-1, 4) : any(0, Model.LAST);
        switch (random.nextInt(4)) {
            case 0:
                told("compare", new long[] {0, 1, law}, real.compare(0, 1, law), model.compare(0, 1, law));
                break;
            case 1:
                told("lasts", new long[] {0, law}, real.lasts(0, law), model.lasts(0, law));
                break;
            case 2:
                told("fails", new long[] {what, 0, 1, law, day}, real.fails(what, 0, 1, law, day),
                        model.fails(what, 0, 1, law, day));
                break;
            default:
                told("often", new long[] {what, 0, 1, law}, real.often(what, 0, 1, law),
                        model.often(what, 0, 1, law));
                break;
        }
        rows();
    }
}
