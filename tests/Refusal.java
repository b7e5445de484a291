import java.util.ArrayList;
import java.util.List;
import java.util.function.Supplier;
import java.util.function.ToIntFunction;

/**
 * A refused call: its answer, and that it changes nothing. The object behind it and one that was not
 * asked are asked alike, by calls that show all that an object holds (and may spoil it: so each part
 * of them has objects of its own, which are used for 512 calls at most).
 */
final class Refusal {
    private static final String LETTERS = "hcldestw";
    private static final int MIN = Integer.MIN_VALUE, MAX = Integer.MAX_VALUE;

    private Refusal() {
    }

    static void due(Check c, String call, Supplier<GownLet> scene, ToIntFunction<GownLet> refused, int due) {
        c.due(call, refused.applyAsInt(scene.get()), due);
        alike(c, call + " changes nothing", scene, () -> {
            GownLet asked = scene.get();
            refused.applyAsInt(asked);
            return asked;
        });
    }

    /** What two scenes leave behind can't be told apart. */
    static void alike(Check c, String what, Supplier<GownLet> one, Supplier<GownLet> other) {
        for (int part = 0; part < 6; part++) {
            c.holds(what + " (part " + part + ")", shown(part, one.get()).equals(shown(part, other.get())));
        }
    }

    interface Numbers {
        int on(GownLet x, int[] n);
    }

    /**
     * Each number in turn is one below its least, one above its most, and far from both: BAD.
     * With each at its least and at its most, while the others are good, the call is not BAD.
     */
    static void bounds(Check c, String call, Supplier<GownLet> scene, int bad, int[] good, int[][] ends, Numbers on) {
        for (int k = 0; k < good.length; k++) {
            for (int wrong : new int[] {ends[k][0] - 1, ends[k][1] + 1, MIN, MAX}) {
                int[] n = good.clone();
                n[k] = wrong;
                due(c, call + " number " + k + " is " + wrong, scene, x -> on.on(x, n), bad);
            }
            for (int right : ends[k]) {
                int[] n = good.clone();
                n[k] = right;
                c.holds(call + " number " + k + " may be " + right, on.on(scene.get(), n) != bad);
            }
        }
    }

    private static List<Integer> shown(int part, GownLet x) {
        List<Integer> answers = new ArrayList<>();
        switch (part) {
            case 0: pieces(x, answers); break;
            case 1: fits(x, answers); break;
            case 2: bookings(x, answers); break;
            case 3: chains(x, answers); break;
            case 4: tape(x, answers); break;
            default: sheets(x, answers); break;
        }
        return answers;
    }

    private static void pieces(GownLet x, List<Integer> answers) {
        for (int what = 0; what <= 7; what++) {
            answers.add(x.count(what));
        }
        int came = x.count(0);
        for (int piece = 0; piece < came; piece++) {
            for (int what = 0; what <= 9; what++) {
                answers.add(x.told(piece, what));
            }
        }
    }

    private static void fits(GownLet x, List<Integer> answers) {
        for (int maker = 0; maker <= 5; maker++) {
            answers.add(x.lie(maker, 0));
            answers.add(x.lie(maker, 1));
        }
        answers.add(x.quarrel());
        int came = Math.min(8, x.count(0));
        for (int piece = 0; piece < came; piece++) {
            int wants = x.told(piece, 0);
            for (int size = 1; size <= 40; size++) {
                answers.add(x.fits(piece, size, wants));
            }
        }
    }

    private static void bookings(GownLet x, List<Integer> answers) {
        int booked = x.count(4);
        for (int booking = 0; booking < booked; booking++) {
            answers.add(x.has(booking));
            for (int what = 0; what <= 4; what++) {
                answers.add(x.about(booking, what));
            }
        }
        for (int day = 0; day <= 24; day++) {
            answers.add(x.asOf(day, 0, 0, 0));
        }
        for (int party = 0; party <= 4; party++) {
            for (int what = 0; what <= 2; what++) {
                answers.add(x.match(party, what));
            }
        }
        for (int night = 20; night <= 380; night += 10) {
            answers.add(x.asOf(399, 1, night, night + 9));
        }
    }

    private static void chains(GownLet x, List<Integer> answers) {
        int booked = Math.min(10, x.count(4));
        int came = Math.min(8, x.count(0));
        for (int booking = 0; booking < booked; booking++) {
            answers.add(x.chain(booking));
            for (int i = 0; i < 2; i++) {
                answers.add(x.link(booking, i, 0));
                answers.add(x.link(booking, i, 1));
            }
            for (int piece = 0; piece < came; piece++) {
                answers.add(x.free(piece, booking));
                answers.add(x.away(piece, booking, 0));
                answers.add(x.away(piece, booking, 1));
            }
        }
    }

    private static void tape(GownLet x, List<Integer> answers) {
        for (char letter : LETTERS.toCharArray()) {
            answers.add(x.term(letter));
        }
        for (int a = 0; a <= 8; a++) {
            for (int b = a + 1; b <= 8; b++) {
                answers.add(x.post(a, b, 0));
            }
        }
        answers.add(x.type('0', 1));
        answers.add(x.terms());
        for (char letter : LETTERS.toCharArray()) {
            answers.add(x.term(letter));
        }
        Check.type(x, "h9;c9;l9;d9;e9;s9;t9;w0");
        answers.add(x.terms());
    }

    private static void sheets(GownLet x, List<Integer> answers) {
        for (int sheet = 0; sheet <= 3; sheet++) {
            for (int lane = 0; lane <= 2; lane++) {
                for (int from : new int[] {0, 1, 6}) {
                    answers.add(x.books(sheet, lane, from, 0));
                    answers.add(x.books(sheet, lane, from, 1));
                }
            }
            answers.add(x.drop(sheet));
        }
        int booked = x.count(4);
        for (int booking = Math.max(0, booked - 5); booking < booked; booking++) {
            answers.add(x.away(0, booking, 0));
            answers.add(x.away(0, booking, 1));
            answers.add(x.give(booking));
        }
        for (int day = 0; day < 399; day += 5) {
            answers.add(x.asOf(day, 0, 0, 0));
        }
        for (int party = 0; party <= 4; party++) {
            answers.add(x.match(party, 2));
        }
    }
}
