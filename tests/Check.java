/** Prints every call whose answer is not the one that is due, and ends with exit code 1 if there was one. */
final class Check {
    private int calls;
    private int wrong;

    void due(String call, long got, long want) {
        calls++;
        if (got != want) {
            wrong++;
            if (wrong <= 50) {
                System.out.println(call + " answered " + got + ", due is " + want);
            }
        }
    }

    void holds(String what, boolean it) {
        due(what, it ? 1 : 0, 1);
    }

    boolean isWrong() {
        return wrong != 0;
    }

    void end() {
        System.out.println(calls + " answers looked at, " + wrong + " not as due");
        if (wrong != 0) {
            System.exit(1);
        }
    }

    /** Types a text; what the last type() answered. */
    static int type(GownLet x, String text) {
        int answer = 0;
        for (int i = 0; i < text.length(); i += 8) {
            String part = text.substring(i, Math.min(text.length(), i + 8));
            answer = x.type(packed(part), part.length());
        }
        return answer;
    }

    static long packed(String part) {
        long w = 0;
        for (int i = 0; i < part.length(); i++) {
            w = w << 8 | part.charAt(i);
        }
        return w;
    }

    static int terms(GownLet x, String text) {
        type(x, text);
        return x.terms();
    }
}
