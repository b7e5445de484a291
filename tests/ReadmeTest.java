import java.lang.reflect.Field;
import java.lang.reflect.Method;
import java.lang.reflect.Modifier;
import java.nio.file.Files;
import java.nio.file.Path;
import java.util.List;
import java.util.regex.Matcher;
import java.util.regex.Pattern;
import java.util.stream.Stream;

/** README.md names every call, every refusal and every test, and its example answers as it says. */
final class ReadmeTest {
    private static final Path README = Path.of("README.md"), DOCUMENT = Path.of("..", "shared", "DOC.md");
    private static final Pattern CALL = Pattern.compile("shop\\.(\\w+)\\((.*)\\); +// (-?\\d+)(:.*|,.*|)");
    private static final String NEW = "GownLet shop = new GownLet();";
    private static final int MOST_CALLS = 512;

    public static void main(String[] args) throws Exception {
        Check c = new Check();
        String page = Files.readString(README);
        names(c, page);
        example(c, page);
        c.end();
    }

    private static void names(Check c, String page) throws Exception {
        Matcher face = Pattern.compile("    public int (\\w+)\\((.*)\\);").matcher(Files.readString(DOCUMENT));
        int calls = 0;
        while (face.find()) {
            String call = face.group(1) + "(" + face.group(2).replaceAll("(int|long) ", "") + ")";
            c.holds("README names " + call, page.contains("`" + call + "`"));
            calls++;
        }
        c.due("calls in the document", calls, 35);
        for (Field field : GownLet.class.getDeclaredFields()) {
            if (Modifier.isPublic(field.getModifiers())) {
                String refusal = "`GownLet." + field.getName() + "` " + field.getInt(null) + " ";
                c.holds("README tells " + refusal, page.contains(refusal));
            }
        }
        try (Stream<Path> tests = Files.list(Path.of("tests"))) {
            for (Path test : (Iterable<Path>) tests::iterator) {
                String name = test.getFileName().toString().replace(".java", "");
                c.holds("README names " + name, !name.endsWith("Test") || page.contains("| `" + name + "` "));
            }
        }
    }

    private static void example(Check c, String page) throws Exception {
        List<String> lines = page.lines().dropWhile(line -> !line.equals("```java")).skip(1)
                .takeWhile(line -> !line.equals("```")).toList();
        c.holds("the example begins with a new object", !lines.isEmpty() && lines.get(0).equals(NEW));
        GownLet shop = new GownLet();
        int calls = 0;
        for (String line : lines) {
            if (line.isEmpty() || line.startsWith("//") || line.equals(NEW)) {
                continue;
            }
            Matcher m = CALL.matcher(line);
            c.holds("a call with its answer: " + line, m.matches());
            if (m.matches()) {
                c.due(line, answer(shop, m.group(1), m.group(2).split(", ")), Integer.parseInt(m.group(3)));
                calls++;
            }
        }
        c.holds("the example calls something, 512 times at most", calls > 0 && calls <= MOST_CALLS);
    }

    private static int answer(GownLet shop, String name, String[] words) throws Exception {
        for (Method method : GownLet.class.getDeclaredMethods()) {
            if (Modifier.isPublic(method.getModifiers()) && method.getName().equals(name)) {
                Class<?>[] types = method.getParameterTypes();
                Object[] numbers = new Object[types.length];
                for (int i = 0; i < types.length; i++) {
                    numbers[i] = types[i] == long.class ? (Object) number(words[i]) : (Object) (int) number(words[i]);
                }
                return (Integer) method.invoke(shop, numbers);
            }
        }
        throw new IllegalStateException("no call " + name);
    }

    /** A number as it stands in Java: 7, -1, 0x1FL, 'd'. */
    private static long number(String word) {
        return word.startsWith("'") ? word.charAt(1) : Long.decode(word.replace("L", ""));
    }
}
