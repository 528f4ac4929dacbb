/** Promises 22 to 25: spans compared over all starts, and laws of order. */
public final class ComparedTest {
    private static final int LAST_DAY = 3652058;

    private ComparedTest() {
    }

    public static void main(String[] args) {
        compare();
        lasts();
        failsByLaws();
        failsInWindow();
        failsRefused();
        often();
        oftenRefused();
        Due.ends("ComparedTest");
    }

    private static DateSpans two(int months, int days, int seconds, int more, int moreDays, int moreSeconds) {
        DateSpans x = new DateSpans();
        x.parts(0, months, days, seconds);
        x.parts(7, more, moreDays, moreSeconds);
        x.week(0);
        return x;
    }

    private static void compares(DateSpans x, int law, int bits, long... row) {
        Due.same("compare by " + law, x.compare(0, 7, law), bits);
        Due.row(x, row);
    }

    private static void compare() {
        Due.promise(22, "compare");
        DateSpans x = two(1, 0, 0, 0, 30, 0);
        compares(x, 0, 7, 12000, 50000, 84097, 730149, 730148, 730119);
        compares(x, 1, 7, 11297, 48000, 86800, 730150, 730210, 730119);
        compares(x, 2, 7, 11600, 48400, 86097, 730149, 730148, 730119);
        compares(x, 3, 7, 11297, 48000, 84097, 730150, 730210, 730119);
        compares(two(0, 30, 0, 1, 0, 0), 0, 7, 84097, 50000, 12000, 730119, 730148, 730149);
        compares(two(12, 0, 0, 0, 365, 0), 0, 6, 0, 110692, 35405, -1, 730178, 730119);
        compares(two(1, 0, 0, 1, 0, -1), 0, 4, 0, 0, 146097, -1, -1, 730119);
        compares(two(1, 0, 0, 2, 0, 0), 0, 1, 146097, 0, 0, 730119, -1, -1);
        compares(two(0, 1, 0, 0, 0, 86400), 3, 2, 0, 146097, 0, -1, 730119, -1);
        // days by which one fails are left aside, be it all of them
        compares(two(96000, 0, 0, 0, 0, 0), 0, 0, 0, 0, 0, -1, -1, -1);
        compares(two(93600, 0, 0, 0, 2848900, 0), 0, 1, 73040, 0, 0, 730119, -1, -1);
        compares(two(0, -730419, 0, 0, 0, 0), 2, 1, 145797, 0, 0, 730419, -1, -1);
        compares(two(-23989, 0, 0, 0, -730419, 0), 0, 4, 0, 0, 145797, -1, -1, 730419);
        compares(two(0, -876215, 0, 0, 0, 0), 0, 1, 1, 0, 0, 876215, -1, -1);
        compares(two(0, 3652058 - 730119, 0, 0, 0, 0), 0, 4, 0, 0, 1, -1, -1, 730119);
        x = two(0, 0, 0, 0, 0, 0);
        Due.same("no slot", x.compare(8, 7, 0), -1);
        Due.same("no slot", x.compare(-1, 7, 0), -1);
        Due.same("no slot", x.compare(0, 8, 0), -1);
        Due.same("no slot", x.compare(0, -1, 0), -1);
        Due.same("no law", x.compare(0, 7, 4), -1);
        Due.same("no law", x.compare(0, 7, -1), -1);
        Due.row(x, 1);
    }

    private static void lasting(int months, int days, int seconds, int law, long... row) {
        DateSpans x = two(months, days, seconds, 0, 0, 0);
        Due.same("lasts by " + law, x.lasts(0, law), row[0]);
        Due.row(x, row);
    }

    private static void lasts() {
        Due.promise(23, "lasts");
        lasting(1, 0, 0, 0, 2419200, 2678400, 730515, 730119, 4);
        lasting(1, 0, 0, 1, 2419200, 2678400, 730516, 730119, 4);
        lasting(1, 0, 0, 2, 2419200, 2678400, 730515, 730119, 4);
        lasting(1, 0, 0, 3, 2419200, 2678400, 730516, 730119, 4);
        lasting(-1, 1, -1, 1, -2592001, -2332801, 730119, 730544, 4);
        lasting(12, 0, 0, 0, 31536000, 31622400, 730178, 730119, 2);
        lasting(0, 3, 0, 3, 259200, 259200, 730119, 730119, 1);
        lasting(0, 0, 0, 0, 0, 0, 730119, 730119, 1);
        // a number below 0 that is meant is told with its row
        lasting(0, 0, -2, 0, -2, -2, 730119, 730119, 1);
        lasting(0, 0, -1, 0, -1, -1, 730119, 730119, 1);
        lasting(93600, 0, 0, 3, 246144182400L, 246144268800L, 730179, 730119, 2);
        lasting(-25200, 0, 5, 0, -66269577595L, -66269577595L, 767009, 767009, 1);
        lasting(-23989, 0, 0, 0, -63085046400L, -63084787200L, 730209, 730179, 4);
        lasting(0, -730419, 0, 2, -63108201600L, -63108201600L, 730419, 730419, 1);
        // the last start alone, and the first one alone
        lasting(0, -876215, 0, 0, -75704976000L, -75704976000L, 876215, 876215, 1);
        lasting(0, 3652058 - 730119, 0, 0, 252455529600L, 252455529600L, 730119, 730119, 1);
        // ways of what was asked before are none of it
        DateSpans x = two(1, 0, 0, 0, 1, 0);
        x.lasts(0, 0);
        Due.same("lasts", x.lasts(7, 0), 86400);
        Due.row(x, 86400, 86400, 730119, 730119, 1);
        x = two(96000, 0, 0, 0, 1000000000, 0);
        Due.same("always fails", x.lasts(0, 0), -2);
        Due.same("always fails", x.lasts(7, 3), -2);
        Due.same("no slot", x.lasts(8, 0), -1);
        Due.same("no slot", x.lasts(-1, 0), -1);
        Due.same("no law", x.lasts(0, 4), -1);
        Due.same("no law", x.lasts(0, -1), -1);
        Due.row(x, 1);
    }

    private static void fails(DateSpans x, int what, int law, int day, int due, long left, long right) {
        Due.same("fails(" + what + ") by " + law, x.fails(what, 0, 7, law, day), due);
        Due.row(x, left, right);
    }

    private static void failsByLaws() {
        Due.promise(24, "fails");
        DateSpans x = two(1, 1, 0, 0, 1, 0);
        fails(x, 0, 0, 738885, 738913, 63844934400L, 63844848000L);
        fails(x, 0, 1, 738885, 738915, 63845107200L, 63844934400L);
        fails(x, 0, 2, 738885, 738913, 63844934400L, 63844848000L);
        fails(x, 0, 3, 738885, 738944, 63847440000L, 63847612800L);
        fails(x, 1, 0, 738885, 738913, 63842256000L, 63842083200L);
        fails(x, 1, 1, 738885, 738913, 63842256000L, 63842083200L);
        fails(x, 1, 2, 738885, 738912, 63842169600L, 63841996800L);
        fails(x, 1, 3, 738885, 738913, 63842256000L, 63842083200L);
        fails(x, 2, 0, 738885, 738913, 63847612800L, 63847440000L);
        fails(x, 2, 1, 738885, 738913, 63847612800L, 63847440000L);
        fails(x, 2, 2, 738885, 738912, 63847526400L, 63847353600L);
        fails(x, 2, 3, 738885, 738913, 63847612800L, 63847440000L);
        fails(x, 3, 0, 738885, 738913, 63844848000L, 63844761600L);
        fails(x, 3, 1, 738885, 738915, 63845020800L, 63844848000L);
        fails(x, 3, 2, 738885, 738913, 63844848000L, 63844761600L);
        fails(x, 3, 3, 738885, 738944, 63847353600L, 63847526400L);
        x = two(1, 0, 0, 2, 0, 0);
        fails(x, 0, 0, 738885, 738914, 63849945600L, 63850032000L);
        fails(x, 0, 1, 738885, 738914, 63850118400L, 63850032000L);
        fails(x, 0, 2, 738885, 738913, 63850032000L, 63849945600L);
        fails(x, 1, 0, 738885, 738914, 63842083200L, 63842169600L);
        fails(x, 1, 2, 738885, 738913, 63842256000L, 63842083200L);
        fails(x, 2, 0, 738885, 738914, 63847267200L, 63847353600L);
        fails(x, 2, 1, 738885, 738914, 63847526400L, 63847353600L);
        for (int what = 0; what < 3; what++) {
            Due.same("none by STRICT", x.fails(what, 0, 7, 3, 738885), -2);
        }
        Due.same("none of months alone", x.fails(3, 0, 7, 0, 738885), -2);
        Due.row(x, 63847526400L, 63847353600L);
        fails(two(0, 0, 600000000, 1, 0, 0), 0, 0, 738885, 738909, 64444329600L, 64444416000L);
    }

    private static void failsInWindow() {
        Due.promise(24, "fails, days looked at");
        DateSpans x = two(1, -3400000, 0, 0, 0, 0);
        Due.same("the last day looked at", x.fails(1, 0, 7, 0, 3400001 - 146096), 3400001);
        Due.row(x, 293760000000L, 293760086400L);
        x.week(0);
        Due.same("one behind it", x.fails(1, 0, 7, 0, 3400001 - 146097), -2);
        Due.row(x, 1);
        x = two(1, 1, 0, 0, 3, 0);
        fails(x, 3, 0, 3651694, 3651721, 315511459200L, 315511372800L);
        fails(x, 3, 0, 3651721, 3651721, 315511459200L, 315511372800L);
        fails(x, 3, 0, 3651728, 3651752, 315513878400L, 315514137600L);
        Due.same("no more days", x.fails(3, 0, 7, 0, 3652027), -2);
        Due.same("no more days", x.fails(3, 0, 7, 0, LAST_DAY), -2);
        Due.same("days never fail", x.fails(1, 7, 7, 0, 0), -2);
        fails(two(1, 0, 0, 0, 0, 0), 1, 0, 0, 28, 2332800, 2419200);
    }

    private static void failsRefused() {
        Due.promise(24, "fails, refused");
        DateSpans x = two(1, 1, 0, 0, 0, 500000001);
        Due.same("beyond bounds", x.fails(2, 7, 0, 0, 0), -9);
        Due.same("twice another span", x.fails(2, 0, 7, 0, 738913), 738913);
        x.week(0);
        Due.same("no twice", x.fails(1, 7, 0, 0, 0), -2);
        Due.same("no twice", x.fails(3, 7, 0, 0, 0), -2);
        x.parts(7, 0, 0, 500000000);
        Due.same("within bounds", x.fails(2, 7, 0, 0, 0), -2);
        x.parts(7, 0, -500000001, 0);
        int[][] wrong = {{4, 7, 0, 0, 0}, {-1, 7, 0, 0, 0}, {2, 8, 0, 0, 0}, {2, -1, 0, 0, 0}, {2, 7, 8, 0, 0},
            {2, 7, -1, 0, 0}, {2, 7, 0, 4, 0}, {2, 7, 0, -1, 0}, {2, 7, 0, 0, -1}, {2, 7, 0, 0, LAST_DAY + 1}};
        for (int[] w : wrong) {
            Due.same("fails", x.fails(w[0], w[1], w[2], w[3], w[4]), -1);
        }
        Due.same("beyond bounds", x.fails(2, 7, 0, 0, LAST_DAY), -9);
        Due.row(x, 1);
    }

    private static void happens(DateSpans x, int what, int law, int times, long most, int day) {
        Due.same("often(" + what + ") by " + law, x.often(what, 0, 7, law), times);
        Due.row(x, most, day);
    }

    private static void often() {
        Due.promise(25, "often");
        int[][] due = {{4703, 730543}, {4000, 730515}, {4703, 730542}, {2000, 730543},
            {4703, 730512}, {4703, 730512}, {4703, 730511}, {2000, 730512},
            {5006, 730512}, {5503, 730484}, {6206, 730511}, {2000, 730512},
            {4703, 730543}, {4000, 730515}, {4703, 730542}, {2000, 730543}};
        DateSpans x = two(1, 1, 0, 0, 1, 0);
        for (int k = 0; k < 16; k++) {
            happens(x, k / 4, k % 4, due[k][0], 259200, due[k][1]);
        }
        x = two(1, 0, 0, 2, 0, 0);
        happens(x, 0, 0, 3406, 259200, 730484);
        happens(x, 0, 2, 3006, 259200, 730481);
        happens(x, 1, 0, 2703, 259200, 730515);
        happens(x, 2, 1, 2703, 259200, 730513);
        happens(x, 0, 3, 0, 0, -1);
        happens(x, 3, 0, 0, 0, -1);
        happens(two(0, 0, 600000000, 1, 0, 0), 0, 1, 22202, 259200, 730146);
        happens(two(0, 0, 500000001, 1, 0, 0), 1, 0, 0, 0, -1);
        // starts by which one fails are aside
        happens(two(92401, 1, 0, 0, 0, 0), 3, 0, 3527, 259200, 730543);
        happens(two(-23989, -300, 0, 0, 0, 0), 1, 3, 84186, 259200, 730485);
        happens(two(96000, 0, 0, 0, 0, 0), 0, 0, 0, 0, -1);
    }

    private static void oftenRefused() {
        Due.promise(25, "often, refused");
        DateSpans x = two(1, 1, 0, 500000001, 0, 0);
        Due.same("beyond bounds", x.often(2, 7, 0, 0), -9);
        int[][] wrong = {{4, 7, 0, 0}, {-1, 7, 0, 0}, {2, 8, 0, 0}, {2, -1, 0, 0}, {2, 7, 8, 0}, {2, 7, -1, 0},
            {2, 7, 0, 4}, {2, 7, 0, -1}};
        for (int[] w : wrong) {
            Due.same("often", x.often(w[0], w[1], w[2], w[3]), -1);
        }
        Due.row(x, 1);
        Due.same("no twice", x.often(0, 7, 0, 0), 0);
        Due.row(x, 0, -1);
    }
}
