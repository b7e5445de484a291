import java.lang.reflect.Constructor;
import java.lang.reflect.Field;
import java.lang.reflect.Method;
import java.lang.reflect.Modifier;
import java.nio.charset.StandardCharsets;
import java.nio.file.Files;
import java.nio.file.Path;
import java.util.HashSet;
import java.util.Set;
import java.util.TreeSet;
import java.util.regex.Matcher;
import java.util.regex.Pattern;

/** The public face is the document's to the letter, and GownLet.java keeps to what can be seen of LANGUAGE.md. */
final class FaceTest {
    private static final Path DOCUMENT = Path.of("..", "shared", "DOC.md");
    private static final Path PROGRAM = Path.of("src", "main", "java", "GownLet.java");
    private static final int MOST_LINES = 60, MOST_PARAMETERS = 7, MOST_CLASSES = 12, MOST_FIELDS = 20;

    public static void main(String[] args) throws Exception {
        Check c = new Check();
        face(c);
        words(c, Files.readString(PROGRAM, StandardCharsets.ISO_8859_1));
        c.end();
    }

    private static void face(Check c) throws Exception {
        c.holds("public and final", Modifier.isPublic(GownLet.class.getModifiers()) && Modifier.isFinal(GownLet.class.getModifiers()));
        Constructor<?>[] constructors = GownLet.class.getDeclaredConstructors();
        c.holds("one public constructor", constructors.length == 1 && Modifier.isPublic(constructors[0].getModifiers())
                && constructors[0].getParameterCount() == 0);
        Set<String> told = new TreeSet<>();
        Matcher m = Pattern.compile("    public (int) (\\w+)\\((.*)\\);").matcher(Files.readString(DOCUMENT));
        while (m.find()) {
            told.add(m.group(1) + " " + m.group(2) + "(" + m.group(3).replaceAll(" \\w+(,|$)", "$1").replace(", ", ",") + ")");
        }
        c.due("methods in the document", told.size(), 35);
        Set<String> found = new TreeSet<>();
        Set<String> publicNames = new HashSet<>();
        for (Method method : GownLet.class.getDeclaredMethods()) {
            if (!Modifier.isPrivate(method.getModifiers())) {
                String text = method.toString();
                found.add(text.replace("public ", "").replace("GownLet.", ""));
                publicNames.add(method.getName());
            }
        }
        c.holds("the methods " + found + " are " + told, found.equals(told));
        ranks(c, GownLet.class, publicNames);
        Class<?>[] inside = GownLet.class.getDeclaredClasses();
        c.holds("some twelve classes", inside.length + 1 <= MOST_CLASSES);
        for (Class<?> one : inside) {
            c.holds(one + " is static and not public", Modifier.isStatic(one.getModifiers()) && !Modifier.isPublic(one.getModifiers()));
            ranks(c, one, publicNames);
        }
        String[] names = {"BAD", "NOT", "FULL", "NONE", "NULL", "CAST", "INDEX", "SIZE"};
        int[] due = {-1, -2, -3, -4, -11, -12, -13, -14};
        int constants = 0;
        for (Field field : GownLet.class.getDeclaredFields()) {
            constants += Modifier.isPublic(field.getModifiers()) ? 1 : 0;
        }
        c.due("public constants", constants, names.length);
        for (int i = 0; i < names.length; i++) {
            Field field = GownLet.class.getDeclaredField(names[i]);
            c.holds(names[i] + " is public static final int", field.toString().startsWith("public static final int "));
            c.due(names[i], field.getInt(null), due[i]);
        }
    }

    /** Rules 1, 5 and 11, of one class. */
    private static void ranks(Check c, Class<?> one, Set<String> publicNames) {
        int fields = 0;
        for (Field field : one.getDeclaredFields()) {
            boolean isStatic = Modifier.isStatic(field.getModifiers());
            fields += isStatic ? 0 : 1;
            c.holds(field + " is final", !isStatic || Modifier.isFinal(field.getModifiers()));
            c.holds(field + " is hidden", Modifier.isPrivate(field.getModifiers()) || one == GownLet.class && isStatic
                    && Modifier.isPublic(field.getModifiers()));
        }
        c.holds(one + " has some twenty fields", fields <= MOST_FIELDS);
        for (Method method : one.getDeclaredMethods()) {
            c.holds(method + " has at most seven parameters", method.getParameterCount() <= MOST_PARAMETERS);
            boolean isFace = one == GownLet.class && Modifier.isPublic(method.getModifiers());
            c.holds(method + " bears no public name", isFace || !publicNames.contains(method.getName()));
        }
        for (Constructor<?> made : one.getDeclaredConstructors()) {
            c.holds(made + " has at most seven parameters", made.getParameterCount() <= MOST_PARAMETERS);
        }
    }

    private static void words(Check c, String program) {
        for (int i = 0; i < program.length(); i++) {
            c.holds("sign " + i, program.charAt(i) < 127);
        }
        String code = program.replaceAll("(?s)/\\*.*?\\*/", "").replaceAll("//[^\n]*", "").replaceAll("'[^']*'", "0");
        String[] ruledOut = {"package", "import", "throw", "throws", "try", "catch", "finally", "synchronized", "assert", "record",
            "instanceof", "protected", "volatile", "native", "equals", "hashCode", "toString", "System", "Thread", "Object",
            "String", "float", "double", "yield", "var"};
        for (String word : ruledOut) {
            c.holds("no " + word, !Pattern.compile("\\b" + word + "\\b").matcher(code).find());
        }
        for (String sign : new String[] {"->", "::", "\"", "@", "while (true)", "for (;;"}) {
            c.holds("no " + sign, !code.contains(sign));
        }
        int lines = 0;
        for (String line : code.split("\n")) {
            boolean isHead = line.matches(" +[^=]*\\(.*\\{") && !line.matches(" +(\\} )?(if|for|while|else|switch|do)\\b.*");
            lines = isHead ? 0 : lines + 1;
            c.holds("methods of some sixty lines", line.matches(" {4,8}\\}") ? lines <= MOST_LINES : true);
        }
    }
}
