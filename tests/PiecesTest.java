/** Promises 6 to 14: gown, longGown, suit, hem, told, same, lie, quarrel, fits. */
final class PiecesTest {
    public static void main(String[] args) {
        Check c = new Check();
        for (int kind = 0; kind <= 2; kind++) {
            coming(c, kind);
        }
        hem(c);
        told(c);
        same(c);
        lies(c);
        quarrel(c);
        fits(c);
        c.end();
    }

    private static int add(GownLet x, int kind, int maker, int label, int lot, int town, int price, int life) {
        switch (kind) {
            case 0: return x.gown(maker, label, lot, town, price, life);
            case 1: return x.longGown(maker, label, lot, town, price, life);
            default: return x.suit(maker, label, lot, town, price, life);
        }
    }

    private static void coming(Check c, int kind) {
        GownLet x = new GownLet();
        int[][] wrong = {
            {-1, 1, 0, 0, 1, 1}, {6, 1, 0, 0, 1, 1}, {0, 0, 0, 0, 1, 1}, {0, 41, 0, 0, 1, 1},
            {0, 1, -1, 0, 1, 1}, {0, 1, 10, 0, 1, 1}, {0, 1, 0, -1, 1, 1}, {0, 1, 0, 9, 1, 1},
            {0, 1, 0, 0, 0, 1}, {0, 1, 0, 0, 10000, 1}, {0, 1, 0, 0, 1, 0}, {0, 1, 0, 0, 1, 100},
        };
        for (int[] w : wrong) {
            c.due("wrong piece of kind " + kind, add(x, kind, w[0], w[1], w[2], w[3], w[4], w[5]), GownLet.BAD);
        }
        c.due("none came", x.count(0), 0);
        c.due("least", add(x, kind, 0, 1, 0, 0, 1, 1), 0);
        c.due("most", add(x, kind, 5, 40, 9, 8, 9999, 99), 1);
        int[] due = {kind, 5, 40, 9, 8, 9999, 0, 9999, 0, GownLet.NONE};
        for (int what = 0; what <= 9; what++) {
            c.due("told " + what, x.told(1, what), due[what]);
        }
        for (int i = 2; i < 24; i++) {
            c.due("number", add(x, i % 3, 0, 10, 0, 0, 100, 10), i);
        }
        c.due("a 25th", add(x, kind, 0, 10, 0, 0, 100, 10), GownLet.FULL);
        c.due("BAD ahead of FULL", add(x, kind, 0, 10, 0, 0, 0, 10), GownLet.BAD);
        c.due("24 pieces", x.count(0), 24);
    }

    private static void hem(Check c) {
        GownLet x = new GownLet();
        x.gown(0, 10, 0, 0, 100, 9);
        x.longGown(0, 10, 0, 0, 100, 9);
        x.suit(0, 10, 0, 0, 100, 9);
        x.longGown(0, 10, 0, 0, 100, 9);
        c.due("hem of a gown", x.hem(0, 1), GownLet.CAST);
        c.due("hem of a suit", x.hem(2, 1), GownLet.CAST);
        c.due("BAD ahead of CAST", x.hem(0, 0), GownLet.BAD);
        c.due("by 0", x.hem(1, 0), GownLet.BAD);
        c.due("by 4", x.hem(1, 4), GownLet.BAD);
        c.due("piece -1", x.hem(-1, 1), GownLet.BAD);
        c.due("piece 4", x.hem(4, 1), GownLet.BAD);
        c.due("fits as it is", x.fits(1, 10, 1), 2);
        c.due("let down", x.hem(1, 3), 1);
        c.due("let down again", x.hem(1, 1), GownLet.NOT);
        c.due("BAD ahead of NOT", x.hem(1, 4), GownLet.BAD);
        c.due("10 fits no more", x.fits(1, 11, 1), 0);
        c.due("12 does", x.fits(1, 12, 1), 2);
        c.due("14 does", x.fits(1, 14, 1), 2);
        c.due("15 does not", x.fits(1, 15, 1), 0);
        c.due("by 1", x.hem(3, 1), 1);
        c.due("the label stays", x.told(1, 2), 10);
    }

    private static void told(Check c) {
        GownLet x = new GownLet();
        c.due("no piece", x.told(0, 0), GownLet.BAD);
        x.suit(2, 7, 3, 4, 1000, 3);
        c.due("piece -1", x.told(-1, 0), GownLet.BAD);
        c.due("piece 1", x.told(1, 0), GownLet.BAD);
        c.due("what -1", x.told(0, -1), GownLet.BAD);
        c.due("what 10", x.told(0, 10), GownLet.BAD);
        int[] due = {2, 2, 7, 3, 4, 1000, 0, 1000, 0, GownLet.NONE};
        for (int what = 0; what <= 9; what++) {
            c.due("told " + what, x.told(0, what), due[what]);
        }
        x.tear(0, 0);
        c.due("torn from 0", x.told(0, 9), 0);
        x.mend(0);
        c.due("mended", x.told(0, 9), GownLet.NONE);
        x.retire(0);
        c.due("retired", x.told(0, 8), 1);
        c.due("worth stays", x.told(0, 7), 1000);
    }

    private static void same(Check c) {
        GownLet x = new GownLet();
        int[][] wrong = {{-1, 1, 0, 1}, {6, 1, 0, 1}, {0, 1, 6, 1}, {0, 1, -1, 1}, {1, 0, 2, 1}, {1, 41, 2, 1},
            {1, 1, 2, 0}, {1, 1, 2, 41}, {3, 1, 3, 1}};
        for (int[] w : wrong) {
            c.due("wrong double", x.same(w[0], w[1], w[2], w[3]), GownLet.BAD);
        }
        c.due("none came", x.count(3), 0);
        for (int i = 0; i < 20; i++) {
            c.due("number", x.same(4, 3, 5, 3), i);
        }
        c.due("a 21st", x.same(4, 3, 5, 3), GownLet.FULL);
        c.due("BAD ahead of FULL", x.same(4, 3, 4, 3), GownLet.BAD);
        c.due("20 doubles", x.count(3), 20);
        c.due("a refused one tells nothing", x.same(0, 1, 1, 40), GownLet.FULL);
        c.due("no quarrel of it", x.quarrel(), 0);
    }

    private static void lies(Check c) {
        GownLet x = new GownLet();
        c.due("maker -1", x.lie(-1, 0), -101);
        c.due("maker 6", x.lie(6, 0), -101);
        c.due("which -1", x.lie(1, -1), -101);
        c.due("which 2", x.lie(1, 2), -101);
        x.same(1, 10, 2, 10);
        c.due("1 low is open", x.lie(1, 0), -9);
        x.same(2, 10, 3, 16);
        c.due("2 low: 3 is 5 to 7 below", x.lie(2, 0), -4);
        c.due("2 high", x.lie(2, 1), 9);
        c.due("3 high", x.lie(3, 1), 4);
        c.due("1 low: 2 is 1 off", x.lie(1, 0), -5);
        x.same(3, 10, 0, 10);
        c.due("3 low", x.lie(3, 0), -1);
        c.due("3 high", x.lie(3, 1), 1);
        c.due("2 low", x.lie(2, 0), 4);
        c.due("2 high", x.lie(2, 1), 8);
        c.due("1 low", x.lie(1, 0), 3);
        c.due("1 high", x.lie(1, 1), 9);
        c.due("0 low", x.lie(0, 0), 0);
        c.due("0 high", x.lie(0, 1), 0);
        c.due("5 low", x.lie(5, 0), -9);
        c.due("5 high", x.lie(5, 1), 9);
    }

    private static void quarrel(Check c) {
        GownLet x = new GownLet();
        x.same(0, 20, 1, 30);
        c.due("-11 .. -9 holds by -9", x.quarrel(), 0);
        c.due("low", x.lie(1, 0), -9);
        c.due("high", x.lie(1, 1), -9);
        c.due("a double that can't be", x.same(0, 20, 2, 31), 1);
        c.due("quarrel", x.quarrel(), 1);
        c.due("low is open", x.lie(1, 0), -9);
        c.due("high is open", x.lie(1, 1), 9);
        c.due("0 low", x.lie(0, 0), 0);
        c.due("0 high", x.lie(0, 1), 0);
        x.same(3, 5, 0, 5);
        c.due("it stays", x.quarrel(), 1);
        c.due("3 is open too", x.lie(3, 1), 9);
        GownLet y = new GownLet();
        y.same(1, 10, 2, 12);
        y.same(2, 10, 3, 12);
        y.same(3, 10, 1, 9);
        c.due("a ring that just holds", y.quarrel(), 0);
        c.due("1 is at least 2 above 3", y.lie(3, 1), 7);
        GownLet z = new GownLet();
        z.same(1, 10, 2, 12);
        z.same(2, 10, 3, 12);
        z.same(3, 10, 1, 10);
        c.due("a ring that is out by one", z.quarrel(), 1);
        GownLet v = new GownLet();
        v.same(4, 40, 5, 1);
        c.due("39 apart, 18 can be", v.quarrel(), 1);
    }

    private static void fits(Check c) {
        GownLet x = new GownLet();
        x.gown(0, 10, 0, 0, 100, 9);
        x.longGown(0, 10, 0, 0, 100, 9);
        x.suit(0, 10, 0, 0, 100, 9);
        x.gown(1, 10, 0, 0, 100, 9);
        int[][] wanted = {{2, 0, 0}, {2, 2, 0}, {0, 0, 2}};
        for (int piece = 0; piece < 3; piece++) {
            for (int wants = 0; wants < 3; wants++) {
                c.due("piece " + piece + " wants " + wants, x.fits(piece, 10, wants), wanted[piece][wants]);
            }
        }
        c.due("8", x.fits(0, 8, 0), 0);
        c.due("9", x.fits(0, 9, 0), 2);
        c.due("11", x.fits(0, 11, 0), 2);
        c.due("12", x.fits(0, 12, 0), 0);
        c.due("1 .. 19 and ease", x.fits(3, 20, 0), 1);
        c.due("beyond ease", x.fits(3, 21, 0), 0);
        Check.terms(x, "e9");
        c.due("ease 9, all lies", x.fits(3, 10, 0), 2);
        c.due("ease 9, not all lies", x.fits(3, 11, 0), 1);
        c.due("ease 9, of maker 0", x.fits(0, 19, 0), 2);
        Check.terms(x, "e0");
        c.due("ease 0", x.fits(0, 10, 0), 2);
        c.due("ease 0 by one", x.fits(0, 11, 0), 0);
        x.same(0, 10, 1, 12);
        c.due("lies -3 .. -1, 6", x.fits(3, 6, 0), 0);
        c.due("lies -3 .. -1, 7", x.fits(3, 7, 0), 1);
        c.due("lies -3 .. -1, 8", x.fits(3, 8, 0), 1);
        c.due("lies -3 .. -1, 10", x.fits(3, 10, 0), 0);
        c.due("another kind does not even may", x.fits(3, 8, 2), 0);
        c.due("piece -1", x.fits(-1, 10, 0), GownLet.BAD);
        c.due("piece 4", x.fits(4, 10, 0), GownLet.BAD);
        c.due("size 0", x.fits(0, 0, 0), GownLet.BAD);
        c.due("size 41", x.fits(0, 41, 0), GownLet.BAD);
        c.due("wants -1", x.fits(0, 10, -1), GownLet.BAD);
        c.due("wants 3", x.fits(0, 10, 3), GownLet.BAD);
    }
}
