import java.io.IOException;
import java.nio.charset.StandardCharsets;
import java.nio.file.Files;
import java.nio.file.Path;
import java.util.regex.Pattern;

/** A section of the document: which of its sentences a test has been held against. */
final class Section {
    private static final Path DOCUMENT = Path.of("..", "shared", "DOC.md");

    final String name;
    private final String text;
    private final boolean[] said;

    private Section(String name, String text) {
        this.name = name;
        this.text = text.replace("```text", " ").replace("```", " ").replaceAll("\\s+", " ").trim();
        said = new boolean[this.text.length()];
    }

    /** What stands behind a promise's heading; its signature is the face's (FaceTest looks at that). */
    static Section promise(int number) {
        String section = between("\n## Promise " + number + ": ", "\n## ");
        return new Section("promise " + number, section.substring(section.indexOf("`: ") + 3));
    }

    static Section part(int number) {
        return new Section("part " + number, between("\n==== " + number + " ", number == 4 ? "\nAhead of" : "\n==== "));
    }

    static Section refusals() {
        return new Section("Terms", between("\n## Terms\n", "\n===="));
    }

    static Section face() {
        return new Section("What it is", between("\nAn object is used", "\n##"));
    }

    static Section aheadOfSheets() {
        return new Section("ahead of the sheets", between(" the interface says: ---- 5 ", "\n##"));
    }

    private static String between(String from, String to) {
        String document;
        try {
            document = Files.readString(DOCUMENT, StandardCharsets.UTF_8) + "\n##";
        } catch (IOException gone) {
            throw new IllegalStateException(DOCUMENT + " can't be read", gone);
        }
        int at = document.indexOf(from);
        int end = at < 0 ? -1 : document.indexOf(to, at + from.length());
        if (end < 0) {
            throw new IllegalStateException("no section between \"" + from.trim() + "\" and \"" + to.trim() + "\"");
        }
        return document.substring(at + from.length(), end);
    }

    /** Whether it has the sentence, which counts as said then. */
    boolean says(String sentence) {
        int at = text.indexOf(sentence);
        boolean isThere = at >= 0;
        while (at >= 0) {
            for (int i = at; i < at + sentence.length(); i++) {
                said[i] = true;
            }
            at = text.indexOf(sentence, at + 1);
        }
        return isThere;
    }

    /** What no test has been held against: nothing, if only blanks and points are left. */
    String unsaid() {
        StringBuilder left = new StringBuilder();
        for (int i = 0; i < said.length; i++) {
            left.append(said[i] ? '|' : text.charAt(i));
        }
        String found = left.toString().replaceAll("\\|+", " | ");
        return Pattern.compile("[A-Za-z0-9]").matcher(found).find() ? found.trim() : "";
    }
}
