import java.io.IOException;
import java.lang.reflect.Method;
import java.lang.reflect.Modifier;
import java.nio.file.Files;
import java.nio.file.Path;
import java.util.Map;
import java.util.TreeMap;
import java.util.TreeSet;
import java.util.regex.Matcher;
import java.util.regex.Pattern;

/** The examples of README.md, each call of them on one object in turn: they answer what the page says. */
public final class ReadmeTest {
    private static final Pattern BLOCK = Pattern.compile("(?s)```java\n(.*?)```");
    private static final Pattern TEXT = Pattern.compile("^(?:String )?text = \"([^\"]*)\";$");
    private static final Pattern CALL = Pattern.compile("^x\\.(\\w+)\\(([-\\d, ]*)\\); +// ([-\\w]+): .+$");
    private static final Map<String, Long> NAMES = Map.of("NONE", -1000000L, "BAD", -1000001L,
        "STATE", -1000002L, "FULL", -1000003L);
    private static final Check CHECK = new Check();

    private final SoupRights x = new SoupRights();
    private final Map<String, Method> face = new TreeMap<>();
    private final TreeSet<String> shown = new TreeSet<>();
    private String told = "";
    private int calls;

    public static void main(String[] args) throws IOException, ReflectiveOperationException {
        new ReadmeTest().examples(Files.readString(Path.of("README.md")));
        CHECK.end("ReadmeTest");
    }

    private ReadmeTest() {
        for (Method m : SoupRights.class.getDeclaredMethods()) {
            if (Modifier.isPublic(m.getModifiers())) {
                face.put(m.getName(), m);
            }
        }
    }

    private void examples(String page) throws ReflectiveOperationException {
        CHECK.of("README.md");
        Matcher block = BLOCK.matcher(page);
        while (block.find()) {
            for (String line : block.group(1).split("\n")) {
                example(line);
            }
        }
        CHECK.same("the calls that it shows", shown, new TreeSet<>(face.keySet()));
        CHECK.same("more calls on its object than the 512 that are promised", calls > 512, false);
    }

    private void example(String line) throws ReflectiveOperationException {
        Matcher text = TEXT.matcher(line);
        Matcher call = CALL.matcher(line);
        if (call.matches()) {
            Method method = face.get(call.group(1));
            String due = call.group(3);
            CHECK.same(line + ": there is such a call", method != null, true);
            if (method != null) {
                CHECK.due(line, answerOf(method, call.group(2)),
                    NAMES.containsKey(due) ? NAMES.get(due) : Long.parseLong(due));
            }
        } else if (text.matches()) {
            told = text.group(1);
        } else if (line.equals("    x.feed(text.charAt(i));")) {
            feedAll();
        } else {
            boolean isPlain = line.equals("SoupRights x = new SoupRights();") || line.equals("}")
                || line.equals("for (int i = 0; i < text.length(); i++) {");
            CHECK.same("a line of no known form: " + line, isPlain, true);
        }
    }

    private long answerOf(Method method, String numbers) throws ReflectiveOperationException {
        String[] each = numbers.isEmpty() ? new String[0] : numbers.split(", *");
        Object[] args = new Object[each.length];
        for (int i = 0; i < each.length; i++) {
            args[i] = Integer.parseInt(each[i]);
        }
        shown.add(method.getName());
        calls++;
        return ((Number) method.invoke(x, args)).longValue();
    }

    private void feedAll() {
        shown.add("feed");
        for (int i = 0; i < told.length(); i++) {
            CHECK.due("feed", x.feed(told.charAt(i)), i + 1);
            calls++;
        }
    }
}
