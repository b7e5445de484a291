/** Prints every call whose answer is not the one that is due, and ends with exit code 1 if there was one. */
final class Check {
    private int calls;
    private int wrong;
    private int sentences;
    private String sentence = "";
    private int callsBefore;

    /** The sentence of the document that the answers from here on are looked at for. */
    void says(Section section, String words) {
        endSentence();
        sentence = section.name + " \"" + words + "\": ";
        sentences++;
        if (!section.says(words)) {
            wrong("does not stand in the document");
        }
        callsBefore = calls;
    }

    /** Each sentence of the section had its test. */
    void allSaid(Section section) {
        endSentence();
        if (!section.unsaid().isEmpty()) {
            wrong(section.name + " has no test for: " + section.unsaid());
        }
    }

    private void endSentence() {
        if (!sentence.isEmpty() && calls == callsBefore) {
            wrong("no answer was looked at");
        }
        sentence = "";
    }

    void due(String call, long got, long want) {
        calls++;
        if (got != want) {
            wrong(call + " answered " + got + ", due is " + want);
        }
    }

    private void wrong(String what) {
        wrong++;
        if (wrong <= 50) {
            System.out.println(sentence + what);
        }
    }

    void holds(String what, boolean it) {
        due(what, it ? 1 : 0, 1);
    }

    boolean isWrong() {
        return wrong != 0;
    }

    void end() {
        endSentence();
        String of = sentences == 0 ? "" : " for " + sentences + " sentences";
        System.out.println(calls + " answers looked at" + of + ", " + wrong + " not as due");
        if (wrong != 0) {
            System.exit(1);
        }
    }

    /** Types a text; what the last type() answered. */
    static int type(GownLet x, String text) {
        int answer = 0;
        for (int i = 0; i < text.length(); i += 8) {
            String part = text.substring(i, Math.min(text.length(), i + 8));
            answer = x.type(packed(part), part.length());
        }
        return answer;
    }

    static long packed(String part) {
        long w = 0;
        for (int i = 0; i < part.length(); i++) {
            w = w << 8 | part.charAt(i);
        }
        return w;
    }

    static int terms(GownLet x, String text) {
        type(x, text);
        return x.terms();
    }
}
