import java.util.ArrayList;
import java.util.List;
import java.util.Random;

/** A call with its numbers, and whether it was refused when it was made. */
final class Call {
    private static final int KINDS = 21, CALLS = 70;
    private static final int HOME = 15, TERMS = 1;

    private final int kind;
    private final int[] n;
    private boolean isRefused;

    private Call(int kind, int[] n) {
        this.kind = kind;
        this.n = n;
    }

    /** Calls whose numbers are mostly as told, now and then a little beside it. */
    static List<Call> some(Random random, int wide) {
        List<Call> calls = new ArrayList<>();
        for (int i = 0; i < CALLS; i++) {
            int[] n = new int[6];
            for (int k = 0; k < 6; k++) {
                n[k] = random.nextInt(8 + 4 * wide) - 1;
            }
            calls.add(new Call(random.nextInt(KINDS), n));
        }
        return calls;
    }

    /** The shop behind these calls, or behind those of them that were not refused there. */
    static GownLet made(List<Call> calls, boolean isSpared) {
        GownLet x = Scenes.shop();
        for (Call call : calls) {
            if (!isSpared) {
                call.isRefused = call.isRefusal(call.on(x));
            } else if (!call.isRefused) {
                call.on(x);
            }
        }
        return x;
    }

    /** A FAULT is one, too, but empties the tape; what is given back is below 0. */
    private boolean isRefusal(int answer) {
        return kind == HOME ? answer <= -1000000 : kind != TERMS && answer < 0;
    }

    private int on(GownLet x) {
        switch (kind) {
            case 0: return x.type(Check.packed("h" + (char) (30 + 4 * n[0]) + ";e" + (char) ('0' + n[1])), 1 + n[2]);
            case TERMS: return x.terms();
            case 2: return x.post(n[0], n[1], n[2]);
            case 3: return x.gown(n[0], 8 + n[1], n[2], n[3], 50 * n[4], n[5]);
            case 4: return x.longGown(n[0], 8 + n[1], n[2], n[3], 50 * n[4], n[5]);
            case 5: return x.suit(n[0], 8 + n[1], n[2], n[3], 50 * n[4], n[5]);
            case 6: return x.hem(n[0], n[1]);
            case 7: return x.same(n[0], 10 + n[1], n[2], 10 + n[3]);
            case 8: return x.book(8 + n[0], n[1] / 3, 98 + n[2], n[3], n[4], n[5]);
            case 9: return x.off(n[0], 4 * n[1]);
            case 10: return x.give(n[0]);
            case 11: return x.tear(n[0], 40 * n[1]);
            case 12: return x.mend(n[0]);
            case 13: return x.swap(n[0]);
            case 14: return x.out(n[0], 600 * n[1]);
            case HOME: return x.home(n[0], 40 * n[1] + n[2], n[3]);
            case 16: return x.retire(n[0]);
            case 17: return x.sheet(n[0], n[1], 5 * n[2]);
            case 18: return x.drop(n[0]);
            case 19: return x.item(n[0], n[1], n[2], n[3]);
            default: return x.books(n[0], n[1], n[2], n[3]);
        }
    }
}
