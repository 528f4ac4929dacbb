import java.lang.management.ManagementFactory;
import java.lang.reflect.Constructor;
import java.lang.reflect.Field;
import java.lang.reflect.Method;
import java.lang.reflect.Modifier;
import java.nio.charset.StandardCharsets;
import java.nio.file.Files;
import java.nio.file.Path;
import java.util.Arrays;
import java.util.NoSuchElementException;
import java.util.TreeSet;
import java.util.regex.Matcher;
import java.util.regex.Pattern;
import java.util.stream.Collectors;

/** The public face, as the document prints it, and what LANGUAGE.md asks that can be looked at from outside. */
public final class FaceTest {
    private static final String FACE = "int sign(int) boolean end(int) int moment(int) int sets(int,int,int) "
            + "int span(int) boolean parts(int,int,int,int) int momentIs(int,int) int spanIs(int,int) "
            + "int date(int) int day(int) int week(int) int add(int,int,int,int,int) "
            + "int steps(int,int,int,int,int,int) int sum(int,int,int) int turn(int,int) int mult(int,int,int) "
            + "int even(int,int) int between(int,int,int,int,int) int least(int,int,int) int age(int,int) "
            + "int compare(int,int,int) long lasts(int,int) int fails(int,int,int,int,int) "
            + "int often(int,int,int,int) long drift(int,int,int,int) long runs(int,int,int,int) "
            + "int next(int,int,int,int) int falls(int,int,int,int,int) int nth(int,int,int,int) "
            + "int workdays(int,int) int shifts(int,int,int) long overlaps(int,int,int,int) int leaps(int,int) "
            + "int again(int,int) int whole(int,int) int floors(int,int,int) int part(int,int,int,int,int) "
            + "int mean(int) int sorts() long share(int,int) int ranks() long rest(int,int) int years(int) "
            + "int written(int,int) int phrase(int,int) boolean keeps() boolean back() int count(int) "
            + "long row(int)";

    private FaceTest() {
    }

    public static void main(String[] args) throws Exception {
        face();
        names();
        source(Path.of(args.length > 0 ? args[0] : "src/main/java/DateSpans.java"));
        printed(Path.of(args.length > 1 ? args[1] : "../shared/DOC.md"));
        room();
        Due.ends("FaceTest");
    }

    private static void face() {
        Due.promise(0, "the public face");
        Class<?> type = DateSpans.class;
        Due.yes("public and final", type.getModifiers() == (Modifier.PUBLIC | Modifier.FINAL));
        TreeSet<String> methods = new TreeSet<>();
        for (Method m : type.getDeclaredMethods()) {
            if (!Modifier.isPrivate(m.getModifiers())) {
                Due.yes(m + " is public alone", m.getModifiers() == Modifier.PUBLIC);
                Class<?>[] thrown = m.getExceptionTypes();
                Due.yes(m + " throws what the face says", m.getName().equals("row")
                        ? thrown.length == 1 && thrown[0] == NoSuchElementException.class : thrown.length == 0);
                methods.add(m.getReturnType() + " " + m.getName() + "(" + Arrays.stream(m.getParameterTypes())
                        .map(Class::getName).collect(Collectors.joining(",")) + ")");
            }
        }
        TreeSet<String> due = new TreeSet<>(Arrays.asList(FACE.split("(?<=\\)) ")));
        Due.yes("methods: " + methods, methods.equals(due));
        for (Field f : type.getDeclaredFields()) {
            boolean constant = f.getName().equals("NONE") && f.getType() == int.class
                    && f.getModifiers() == (Modifier.PUBLIC | Modifier.STATIC | Modifier.FINAL);
            Due.yes(f + " is private", constant || Modifier.isPrivate(f.getModifiers()));
        }
        Constructor<?>[] made = type.getDeclaredConstructors();
        Due.yes("one public constructor of nothing", made.length == 1 && made[0].getParameterCount() == 0
                && made[0].getModifiers() == Modifier.PUBLIC);
        for (Class<?> inside : type.getDeclaredClasses()) {
            int how = inside.getModifiers();
            Due.yes(inside + " is static and not public", Modifier.isStatic(how) && !Modifier.isPublic(how)
                    && !Modifier.isProtected(how));
        }
        Due.yes("some twelve classes", type.getDeclaredClasses().length <= 11);
    }

    /** The face here is the one that the document's code block prints, call by call. */
    private static void printed(Path document) throws Exception {
        Due.promise(0, "the public face as the document's code block prints it");
        String block = Files.readString(document, StandardCharsets.UTF_8).split("```java")[1].split("```")[0];
        Due.yes("NONE", block.contains("public static final int NONE = -1;"));
        TreeSet<String> printed = new TreeSet<>();
        Matcher calls = Pattern.compile("public (int|long|boolean) (\\w+)\\(([^)]*)\\)").matcher(block);
        while (calls.find()) {
            String numbers = calls.group(3).replaceAll("(\\w+) \\w+", "$1").replace(", ", ",");
            printed.add(calls.group(1) + " " + calls.group(2) + "(" + numbers + ")");
        }
        TreeSet<String> due = new TreeSet<>(Arrays.asList(FACE.split("(?<=\\)) ")));
        Due.yes("calls: " + printed, printed.equals(due));
    }

    private static void names() {
        Due.promise(0, "no private method bears the name of a public one");
        TreeSet<String> open = new TreeSet<>();
        for (Method m : DateSpans.class.getDeclaredMethods()) {
            if (Modifier.isPublic(m.getModifiers())) {
                open.add(m.getName());
            }
        }
        check(DateSpans.class, open);
        for (Class<?> inside : DateSpans.class.getDeclaredClasses()) {
            check(inside, open);
        }
    }

    private static void check(Class<?> type, TreeSet<String> open) {
        for (Method m : type.getDeclaredMethods()) {
            boolean face = type == DateSpans.class && Modifier.isPublic(m.getModifiers());
            Due.yes(m.toString(), face || !open.contains(m.getName()));
            Due.yes(m + " takes at most seven", m.getParameterCount() <= 7);
        }
        long fields = Arrays.stream(type.getDeclaredFields())
                .filter(f -> !Modifier.isStatic(f.getModifiers())).count();
        Due.yes(type + " has some twenty fields", fields <= 20);
        for (Field f : type.getDeclaredFields()) {
            Due.yes(f + " is final if static", !Modifier.isStatic(f.getModifiers())
                    || Modifier.isFinal(f.getModifiers()) && f.getType() != double.class);
        }
    }

    private static void source(Path file) throws Exception {
        Due.promise(0, "LANGUAGE.md");
        String all = Files.readString(file, StandardCharsets.UTF_8);
        String code = all.replaceAll("(?s)/\\*.*?\\*/", " ").replaceAll("//[^\n]*", " ")
                .replaceAll("\"[^\"\n]*\"", "\"\"").replaceAll("'[^'\n]'", "0");
        Matcher imports = Pattern.compile("import ([^;]*);").matcher(code);
        while (imports.find()) {
            Due.yes("import " + imports.group(1), imports.group(1).equals("java.util.NoSuchElementException"));
        }
        for (String word : new String[] {"->", "::", "static {", "Exact(", "\\bcatch\\b", "\\btry\\b", "\\bfinally\\b",
            "\\bsynchronized\\b", "\\bassert\\b", "\\binstanceof\\b", "\\bprotected\\b", "\\bpackage\\b",
            "\\bSystem\\b", "\\bDouble\\b", "\\bFloat\\b", "\\bStrictMath\\b", "\\bwhile\\b", "\\bvar\\b", "\\brecord\\b"}) {
            String found = word.startsWith("\\b") ? word : Pattern.quote(word);
            Due.no("it has " + word, Pattern.compile(found).matcher(code).find());
        }
        Due.same("throws written", Pattern.compile("throw new").matcher(code).results().count(), 1);
        Due.yes("signs up to 127", all.chars().allMatch(c -> c < 128));
    }

    /** The dearest calls make no objects at all: all runs of calls live in one room. */
    private static void room() {
        Due.promise(0, "room");
        if (!(ManagementFactory.getThreadMXBean() instanceof com.sun.management.ThreadMXBean)) {
            return;
        }
        com.sun.management.ThreadMXBean bean = (com.sun.management.ThreadMXBean) ManagementFactory.getThreadMXBean();
        if (!bean.isThreadAllocatedMemorySupported()) {
            return;
        }
        long thread = Thread.currentThread().getId();
        all(new DateSpans());
        long before = bean.getThreadAllocatedBytes(thread);
        for (int k = 0; k < 3; k++) {
            all(new DateSpans());
        }
        long each = (bean.getThreadAllocatedBytes(thread) - before) / 3;
        Due.yes("an object and fifty calls take " + each + " bytes", each < 8192);
    }

    private static void all(DateSpans x) {
        x.sets(1, 738915, 5);
        x.sets(2, 3652058, 0);
        x.parts(1, 1, 1, 0);
        x.sign(0x31793264);
        x.span(2);
        x.sign(0x31793264);
        x.moment(2);
        x.week(5);
        x.add(1, 1, 0, 0, 3);
        x.steps(1, 1, 0, 0, 10000, 3);
        x.sum(1, 1, 3);
        x.turn(1, 3);
        x.mult(1, 5, 3);
        x.even(1, 3);
        x.between(1, 2, 0, 7, 3);
        x.least(1, 2, 3);
        x.age(1, 2);
        x.compare(1, 2, 0);
        x.lasts(1, 0);
        x.fails(0, 1, 1, 0, 0);
        x.often(0, 1, 2, 0);
        x.drift(1, 1, 0, 1000);
        x.runs(1, 1, 0, 1000);
        x.next(1, 1, 0, 2);
        x.falls(1, 1, 0, 1000, 0);
        x.nth(2024, 2, 3, 5);
        x.workdays(1, 2);
        x.shifts(1, 10000, 3);
        x.overlaps(0, 1, 2, 3);
        x.leaps(0, 2);
        x.again(1, 100);
        x.whole(0, 2);
        x.floors(1, 5, 3);
        x.part(0, 1, 1, 3, 3);
        x.mean(255);
        x.sorts();
        x.share(1, 2);
        x.ranks();
        x.rest(1, 2);
        x.years(1);
        x.written(1, 5);
        x.phrase(1, 1);
        x.keeps();
        x.back();
        x.count(0);
        x.row(0);
    }
}
