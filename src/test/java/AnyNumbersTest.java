import java.lang.reflect.InvocationTargetException;
import java.lang.reflect.Method;
import java.util.Arrays;
import java.util.Comparator;
import java.util.NoSuchElementException;
import java.util.Random;

/**
 * Calls with any numbers at all, drawn by a fixed seed, 512 on each object: none throws, but row() as it is
 * to, and what the object holds stays within the bounds of Terms 1 and 2.
 */
public final class AnyNumbersTest {
    private static final int[] NOTABLE = {Integer.MIN_VALUE, Integer.MIN_VALUE + 1, -1000000001, -1000000000, -86401,
        -2, -1, 0, 1, 2, 3, 4, 5, 6, 7, 8, 9, 12, 99, 100, 101, 255, 256, 1000, 1001, 10000, 10001, 86399, 86400,
        730119, 738944, 3652058, 3652059, 20240229, 99991231, 1000000000, 1000000001, Integer.MAX_VALUE};
    private static final String SLOW = " compare lasts fails often ";

    private final Random random = new Random(512);
    private final Method[] calls;

    private AnyNumbersTest() {
        calls = Arrays.stream(DateSpans.class.getDeclaredMethods())
                .filter(m -> java.lang.reflect.Modifier.isPublic(m.getModifiers()))
                .sorted(Comparator.comparing(Method::getName)).toArray(Method[]::new);
    }

    public static void main(String[] args) throws Exception {
        AnyNumbersTest test = new AnyNumbersTest();
        for (int run = 0; run < 150; run++) {
            test.run();
        }
        test.lastCall();
        Due.ends("AnyNumbersTest");
    }

    private int any(boolean mostlySmall) {
        if (mostlySmall && random.nextInt(8) > 0) {
            return random.nextInt(9) - (random.nextInt(20) == 0 ? 1 : 0);
        }
        int number = NOTABLE[random.nextInt(NOTABLE.length)];
        return random.nextInt(6) == 0 ? random.nextInt() : number;
    }

    private void run() throws Exception {
        Due.sentence(0, "No call may ever throw by itself");
        DateSpans x = new DateSpans();
        int slow = 0;
        for (int k = 0; k < 440; k++) {
            Method call = calls[random.nextInt(calls.length)];
            if (SLOW.contains(" " + call.getName() + " ") && slow++ > 8) {
                continue;
            }
            boolean mostlySmall = random.nextInt(4) > 0;
            Object[] numbers = new Object[call.getParameterCount()];
            for (int j = 0; j < numbers.length; j++) {
                numbers[j] = any(mostlySmall && (j < 2 || random.nextBoolean()));
            }
            made(x, call, numbers);
        }
        within(x);
    }

    private static void made(DateSpans x, Method call, Object[] numbers) throws Exception {
        try {
            call.invoke(x, numbers);
        } catch (InvocationTargetException e) {
            boolean due = call.getName().equals("row") && e.getCause().getClass() == NoSuchElementException.class;
            Due.yes(call.getName() + Arrays.toString(numbers) + " threw " + e.getCause(), due);
        }
    }

    private static void within(DateSpans x) {
        Due.sentence(0, "A MOMENT: a DAY and a SECOND 0 .. 86399; A SPAN: each -1000000000 .. 1000000000");
        for (int i = 0; i < 8; i++) {
            Due.yes("a DAY", x.date(x.momentIs(i, 0)) > 0);
            Due.yes("a SECOND", x.momentIs(i, 1) >= 0 && x.momentIs(i, 1) < 86400);
            for (int what = 0; what < 3; what++) {
                Due.yes("a number of a SPAN", Math.abs((long) x.spanIs(i, what)) <= 1000000000);
            }
        }
        Due.yes("numbers of the ROW", x.count(2) >= 0 && x.count(2) <= 8);
        Due.yes("signs of THE TEXT", x.count(3) >= 0 && x.count(3) <= 100);
    }

    private void lastCall() {
        Due.sentence(0, "An object is used for at most 512 calls after it has been made");
        DateSpans x = new DateSpans();
        x.sets(1, 738915, 5);
        x.parts(1, 1, 0, 0);
        x.keeps();
        for (int k = 3; k < 509; k++) {
            x.add(1, 1, 0, 0, 2);
        }
        Due.same("call 510", x.add(1, 1, 0, 0, 2), 738944);
        Due.same("call 511", x.row(1), 2);
        Due.same("call 512", x.back() ? 1 : 0, 1);
    }
}
