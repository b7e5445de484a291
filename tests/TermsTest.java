/** Promises 1 to 5: a new object, type, terms, term, post. */
final class TermsTest {
    private static final String LETTERS = "hcldestw";
    private static final int[] FIRST = {1, 2, 50, 30, 1, 200, 900, 3};
    private static final int[] MOST = {9, 9, 999, 100, 9, 999, 999, 3};

    public static void main(String[] args) {
        Check c = new Check();
        newObject(c);
        type(c);
        termsAndFaults(c);
        term(c);
        post(c);
        c.end();
    }

    private static void atFirst(Check c, String when, GownLet x) {
        for (int i = 0; i < 8; i++) {
            c.due(when + " term " + LETTERS.charAt(i), x.term(LETTERS.charAt(i)), FIRST[i]);
        }
    }

    private static void newObject(Check c) {
        GownLet x = new GownLet();
        for (int what = 0; what <= 7; what++) {
            c.due("new count " + what, x.count(what), 0);
        }
        atFirst(c, "new", x);
        c.due("new quarrel", x.quarrel(), 0);
        for (int maker = 1; maker <= 5; maker++) {
            c.due("new low", x.lie(maker, 0), -9);
            c.due("new high", x.lie(maker, 1), 9);
        }
        for (int s = 0; s <= 3; s++) {
            c.due("new sheet " + s, x.drop(s), GownLet.NULL);
        }
        c.due("new tape", x.terms(), -20);
        c.due("one object is none of the other", new GownLet().gown(0, 1, 0, 0, 1, 1), 0);
        c.due("no piece came here", x.count(0), 0);
    }

    private static void type(Check c) {
        GownLet x = new GownLet();
        c.due("type n 0", x.type('h', 0), GownLet.BAD);
        c.due("type n 9", x.type(Check.packed("hhhhhhhh"), 9), GownLet.BAD);
        c.due("type n MAX", x.type(Check.packed("hhhhhhhh"), Integer.MAX_VALUE), GownLet.BAD);
        c.due("type n MIN", x.type(Check.packed("hhhhhhhh"), Integer.MIN_VALUE), GownLet.BAD);
        c.due("type n -1", x.type('h', -1), GownLet.BAD);
        c.due("type 31", x.type(31, 1), GownLet.BAD);
        c.due("type 127", x.type(127, 1), GownLet.BAD);
        c.due("type 255", x.type(255, 1), GownLet.BAD);
        c.due("type a high 0", x.type('h', 2), GownLet.BAD);
        c.due("type -1", x.type(-1L, 8), GownLet.BAD);
        c.due("what is above is not looked at", x.type(-1L << 16 | 'e' << 8 | '4', 2), 2);
        c.due("the highest came first", x.terms(), 1);
        c.due("e", x.term('e'), 4);
        c.due("type 32 and 126", x.type(' ' << 8 | '~', 2), 2);
        c.due("126 is kept", x.terms(), -21);
        for (int i = 1; i <= 7; i++) {
            c.due("type eight", x.type(Check.packed("        "), 8), 8 * i);
        }
        c.due("57 to 61", x.type(Check.packed("     "), 5), GownLet.FULL);
        c.due("BAD ahead of FULL", x.type(5, 8), GownLet.BAD);
        c.due("57 to 60", x.type(Check.packed(" h 3"), 4), 60);
        c.due("61", x.type(' ', 1), GownLet.FULL);
        c.due("sixty bytes are read", x.terms(), 1);
        c.due("h", x.term('h'), 3);
        c.due("the tape is empty again", x.type(' ', 1), 1);
    }

    private static void termsAndFaults(Check c) {
        String[] texts = {
            "", "   ", "h", "h ", "h1", "h 1", " h 1 ", "h1;", "h1; ", "h1 ;c2", "h1;;c2", ";h1", "h1 2", "h1c2",
            "H1", "x1", "h-1", "h10", "h09", "h0000000000000000009", "h99999999999999999999", "h4294967296", "h18446744073709551617",
            "c9", "c10", "l999", "l1000", "d100", "d101", "e9", "e10", "s999", "s1000", "t999", "t1000", "w3", "w4",
            "h1;h2;h3;h4;h5;h6;h7;h8", "h1;h2;h3;h4;h5;h6;h7;h8;", "h1;h2;h3;h4;h5;h6;h7;h8 ; h9", "h1;h2;h3;h4;h5;h6;h7;h8x",
            "h1;h2;h3;h4;h5;h6;h7;h10;", "w1000;x", "h 1 0", "e1 : c1", "e 12x",
        };
        int[] due = {
            -20, -23, -21, -22, 1, 1, 1, -23, -24, 2, -23, -20, -23, -22,
            -20, -20, -21, -21, 1, 1, -21, -21, -21,
            1, -21, 1, -21, 1, -21, 1, -21, 1, -21, 1, -21, 1, -21,
            8, -43, -44, -43,
            -42, -21, -24, -23, -22,
        };
        for (int i = 0; i < texts.length; i++) {
            GownLet x = new GownLet();
            c.due("terms \"" + texts[i] + "\"", Check.terms(x, texts[i]), due[i]);
            if (due[i] < 0) {
                atFirst(c, "behind \"" + texts[i] + "\"", x);
            }
            c.due("the tape is empty behind \"" + texts[i] + "\"", x.type('h', 1), 1);
        }
        GownLet x = new GownLet();
        c.due("a letter twice", Check.terms(x, "e3;h4;e5"), 3);
        c.due("the latter holds", x.term('e'), 5);
        c.due("h is told", x.term('h'), 4);
        c.due("c is not told", x.term('c'), 2);
        c.due("a fault late", Check.terms(x, "e1;h1;c10"), -27);
        c.due("e stays", x.term('e'), 5);
        c.due("h stays", x.term('h'), 4);
        c.due("next terms", Check.terms(x, "c0"), 1);
        c.due("what is not told stays what it was", x.term('e'), 5);
        for (int i = 0; i < 8; i++) {
            c.due("most of a letter", Check.terms(x, "" + LETTERS.charAt(i) + MOST[i]), 1);
            c.due("is taken", x.term(LETTERS.charAt(i)), MOST[i]);
            c.due("beyond it", Check.terms(x, "" + LETTERS.charAt(i) + (MOST[i] + 1)), -21);
            c.due("0 of a letter", Check.terms(x, LETTERS.charAt(i) + "0"), 1);
            c.due("is taken too", x.term(LETTERS.charAt(i)), 0);
        }
    }

    private static void term(Check c) {
        GownLet x = new GownLet();
        for (int letter = -300; letter <= 600; letter++) {
            int place = letter < 0 ? -1 : LETTERS.indexOf(letter);
            c.due("term " + letter, new GownLet().term(letter), place < 0 ? GownLet.BAD : FIRST[place]);
        }
        c.due("term MAX", x.term(Integer.MAX_VALUE), GownLet.BAD);
        c.due("term MIN", x.term(Integer.MIN_VALUE), GownLet.BAD);
    }

    private static void post(Check c) {
        GownLet x = new GownLet();
        c.due("post was 1", x.post(0, 8, 9), 1);
        c.due("both ways", x.post(8, 0, 0), 9);
        c.due("both ways alike", x.post(0, 8, 4), 0);
        c.due("others stay", x.post(1, 8, 4), 1);
        c.due("one town", x.post(3, 3, 0), GownLet.BAD);
        c.due("town -1", x.post(-1, 3, 0), GownLet.BAD);
        c.due("town 9", x.post(9, 3, 0), GownLet.BAD);
        c.due("second town -1", x.post(3, -1, 0), GownLet.BAD);
        c.due("second town 9", x.post(3, 9, 0), GownLet.BAD);
        c.due("days -1", x.post(0, 1, -1), GownLet.BAD);
        c.due("days 10", x.post(0, 1, 10), GownLet.BAD);
        c.due("refused changes nothing", x.post(0, 1, 2), 1);
        x.gown(0, 10, 0, 2, 100, 9);
        x.book(10, 0, 100, 2, 0, -1);
        x.book(10, 0, 100, 3, 0, -1);
        x.post(3, 2, 7);
        c.due("within a town 0", x.away(0, 0, 0), 99);
        c.due("ahead by post", x.away(0, 1, 0), 92);
        c.due("behind by post", x.away(0, 1, 1), 109);
    }
}
