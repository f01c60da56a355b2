import java.io.IOException;
import java.lang.reflect.Constructor;
import java.lang.reflect.Field;
import java.lang.reflect.Method;
import java.lang.reflect.Modifier;
import java.nio.file.Files;
import java.nio.file.Path;
import java.util.ArrayList;
import java.util.Arrays;
import java.util.List;
import java.util.TreeSet;
import java.util.regex.Matcher;
import java.util.regex.Pattern;

/** The public face, and those rules of LANGUAGE.md that a test can see. */
public final class FaceTest {
    private static final Check CHECK = new Check();
    private static final String FACE =
        "int row(3) int set(3) int copy(5) int drop(1) int feed(1) int house(0) int fault(0) int undo(0) "
        + "int days(1) int sell(3) int bind(2) int give(3) int wolves(1) int right(2) int heir(2) int worth(2) "
        + "int ahead(3) int whose(2) int eats(2) int starves(1) int richest(1) int price(1) int cheap(3) "
        + "int sales(1) int surplus(2) int bonds(2) int barter(2) int whatSold(3) int who(4) int claims(0) "
        + "int peace(2) long prowl(3) int drawn(3) int image(1) int restore(1) int kind(1) int as(2) int ask(2) "
        + "int trace(1) int count(1) int status(0)";

    public static void main(String[] args) throws IOException {
        methods();
        members();
        source();
        CHECK.end("FaceTest");
    }

    private static void methods() {
        TreeSet<String> want = new TreeSet<>();
        Matcher each = Pattern.compile("\\w+ \\w+\\(\\d\\)").matcher(FACE);
        while (each.find()) {
            want.add(each.group());
        }
        TreeSet<String> got = new TreeSet<>();
        TreeSet<String> names = new TreeSet<>();
        for (Method m : SoupRights.class.getDeclaredMethods()) {
            if (Modifier.isPublic(m.getModifiers())) {
                names.add(m.getName());
                got.add(m.getReturnType() + " " + m.getName() + "(" + m.getParameterCount() + ")");
                CHECK.same(m + " takes ints alone",
                    Arrays.stream(m.getParameterTypes()).allMatch(t -> t == int.class), true);
                CHECK.same(m + " is static", Modifier.isStatic(m.getModifiers()), false);
            }
        }
        CHECK.same("the public methods", got, want);
        List<Class<?>> all = new ArrayList<>(List.of(SoupRights.class.getDeclaredClasses()));
        all.add(SoupRights.class);
        for (Class<?> c : all) {
            for (Method m : c.getDeclaredMethods()) {
                if (!Modifier.isPublic(m.getModifiers())) {
                    CHECK.same(m + " bears a public name", names.contains(m.getName()), false);
                }
                CHECK.same(m + " takes more than seven", m.getParameterCount() > 7, false);
            }
        }
    }

    private static void members() {
        Class<?> c = SoupRights.class;
        CHECK.same("public and final", c.getModifiers(), Modifier.PUBLIC | Modifier.FINAL);
        Constructor<?>[] made = c.getDeclaredConstructors();
        CHECK.due("constructors", made.length, 1);
        CHECK.same("its constructor", made[0].toString(), "public SoupRights()");
        TreeSet<String> constants = new TreeSet<>();
        for (Field f : c.getDeclaredFields()) {
            if (Modifier.isPublic(f.getModifiers())) {
                constants.add(f.getName());
                CHECK.same(f + " is a constant", f.toString(), "public static final int SoupRights." + f.getName());
            } else {
                CHECK.same(f + " is private", Modifier.isPrivate(f.getModifiers()), true);
            }
        }
        CHECK.same("the constants", constants, new TreeSet<>(List.of("NONE", "BAD", "STATE", "FULL")));
        CHECK.due("NONE", SoupRights.NONE, -1000000);
        CHECK.due("BAD", SoupRights.BAD, -1000001);
        CHECK.due("STATE", SoupRights.STATE, -1000002);
        CHECK.due("FULL", SoupRights.FULL, -1000003);
        for (Method m : c.getDeclaredMethods()) {
            CHECK.same(m + " is public or private",
                Modifier.isPublic(m.getModifiers()) || Modifier.isPrivate(m.getModifiers()), true);
        }
        Class<?>[] inside = c.getDeclaredClasses();
        CHECK.same("some twelve classes", inside.length < 12, true);
        for (Class<?> each : inside) {
            CHECK.same(each + " is static", Modifier.isStatic(each.getModifiers()), true);
            CHECK.same(each + " is public", Modifier.isPublic(each.getModifiers()), false);
        }
        for (Class<?> each : inside) {
            for (Field f : each.getDeclaredFields()) {
                CHECK.same(f + ": static state", Modifier.isStatic(f.getModifiers())
                    && !Modifier.isFinal(f.getModifiers()), false);
            }
        }
    }

    private static void source() throws IOException {
        String text = Files.readString(Path.of("src/main/java/SoupRights.java"));
        String code = text.replaceAll("(?s)/\\*.*?\\*/", "").replaceAll("//[^\n]*", "");
        String[] barred = {"\\bthrow", "\\btry\\b", "\\bcatch\\b", "\\bsynchronized\\b", "\\bassert\\b", "->", "::",
            "\\bpackage\\b", "\\bimport\\b", "Exact\\b", "\\bObject\\b", "\\bSystem\\.(?!arraycopy)",
            "\\bnew \\w+\\([^)]*\\) *\\{", "\\bstatic *\\{"};
        for (String each : barred) {
            Matcher found = Pattern.compile(each).matcher(code);
            CHECK.same(each + " stands in the class", found.find() ? found.group() : "", "");
        }
        int longest = 0;
        int since = 0;
        for (String line : text.split("\n")) {
            boolean isHead = line.matches(" {4,8}(?! )[\\w\\[\\] ]+\\([^;]*\\) \\{");
            since = isHead ? 0 : since + 1;
            if (line.matches(" {4,8}\\}")) {
                longest = Math.max(longest, since);
            }
            CHECK.same("a line of more than 120 signs: " + line, line.length() > 120, false);
        }
        CHECK.same("methods stay short", longest < 60, true);
    }
}
