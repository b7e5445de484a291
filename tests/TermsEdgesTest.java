/** Part 1 and promises 1 to 5, sentence by sentence: the edges, and what is refused. */
final class TermsEdgesTest {
    private static final String LETTERS = "hcldestw";
    private static final int[] FIRST = {1, 2, 50, 30, 1, 200, 900, 3};
    private static final int[] MOST = {9, 9, 999, 100, 9, 999, 999, 3};
    private static final int BAD = GownLet.BAD, FULL = GownLet.FULL, NULL = GownLet.NULL;
    private static final int MIN = Integer.MIN_VALUE, MAX = Integer.MAX_VALUE;

    public static void main(String[] args) {
        Check c = new Check();
        clauses(c);
        faults(c);
        newObject(c);
        type(c);
        terms(c);
        term(c);
        post(c);
        c.end();
    }

    /** What terms() answers to a text on a new object; a FAULT leaves all as at first. */
    private static void read(Check c, String text, int due) {
        GownLet x = new GownLet();
        Check.type(x, text);
        c.due("\"" + text + "\"", x.terms(), due);
        if (due < 0) {
            atFirst(c, "behind \"" + text + "\"", x);
        }
    }

    private static void atFirst(Check c, String when, GownLet x) {
        for (int i = 0; i < 8; i++) {
            c.due(when + " " + LETTERS.charAt(i), x.term(LETTERS.charAt(i)), FIRST[i]);
        }
    }

    private static String blanks(int n) {
        return " ".repeat(n);
    }

    private static void clauses(Check c) {
        Section s = Section.part(1);
        c.says(s, "TERMS are a TEXT: 1 to 8 CLAUSES");
        read(c, "", -20);
        read(c, "e1", 1);
        read(c, "e1;e1;e1;e1;e1;e1;e1", 7);
        read(c, "h1;c2;l3;d4;e5;s6;t7;w1", 8);
        read(c, "e1;e1;e1;e1;e1;e1;e1;e1;e1", -43);
        c.says(s, "with ; between,");
        read(c, ";e1", -20);
        read(c, "e1;", -23);
        read(c, "e1;;e2", -23);
        read(c, ";", -20);
        read(c, "e1,e2", -22);
        read(c, "e1e2", -22);
        read(c, "e1:", -22);
        c.says(s, "each a letter and a number");
        read(c, "e", -21);
        read(c, "1", -20);
        read(c, "1e", -20);
        read(c, "ee1", -21);
        read(c, "e;h1", -21);
        read(c, "e-1", -21);
        read(c, "e+1", -21);
        read(c, "e/", -21);
        read(c, "e:", -21);
        read(c, "e1.5", -22);
        for (int sign = 33; sign <= 126; sign++) {
            boolean isLetter = LETTERS.indexOf(sign) >= 0;
            read(c, (char) sign + "1", isLetter ? 1 : -20);
        }
        c.says(s, "(0 .. 999)");
        read(c, "l0", 1);
        read(c, "l999", 1);
        read(c, "l1000", -21);
        read(c, "l0999", 1);
        read(c, "l9999", -21);
        numbers(c, s);
        told(c, s);
        finish(c, s);
    }

    private static void numbers(Check c, Section s) {
        String[] words = {
            "h HOLD (days that a piece is away ahead of the night, 0 .. 9)", "c CLEAN (days behind it, 0 .. 9)",
            "l LATE (pence a day)", "d DEPOSIT (hundredths of the PRICE, 0 .. 100)", "e EASE (0 .. 9)", "s STAIN (pence)",
            "t TEAR (pence)", "w SWAPS (0 .. 3)",
        };
        String[] beyond = {"1000", "9999", "4294967296", "4294967297", "2147483648", "18446744073709551616", "99999999999999999999999"};
        for (int i = 0; i < 8; i++) {
            c.says(s, words[i]);
            char letter = LETTERS.charAt(i);
            for (int number = 0; number <= MOST[i]; number++) {
                GownLet x = new GownLet();
                c.due(letter + " " + number, Check.terms(x, "" + letter + number), 1);
                c.due(letter + " is", x.term(letter), number);
            }
            read(c, "" + letter + (MOST[i] + 1), -21);
            for (String number : beyond) {
                read(c, letter + number, -21);
                read(c, "e2;" + letter + " " + number, -25);
            }
            read(c, letter + "000000000000000000000000000000000000000000000000000000000" + MOST[i] % 10, 1);
        }
    }

    private static void told(Check c, Section s) {
        c.says(s, "Of a letter told twice the latter holds");
        GownLet x = new GownLet();
        c.due("told twice", Check.terms(x, "e3;e7"), 2);
        c.due("the latter", x.term('e'), 7);
        c.due("eight times", Check.terms(x, "e8;e7;e6;e5;e4;e3;e2;e0"), 8);
        c.due("the last", x.term('e'), 0);
        read(c, "e10;e1", -21);
        read(c, "e1;e10", -24);
        c.says(s, "of one not told what it was");
        GownLet y = new GownLet();
        Check.terms(y, "h4;l7");
        c.due("another", Check.terms(y, "c5"), 1);
        int[] due = {4, 5, 7, 30, 1, 200, 900, 3};
        for (int i = 0; i < 8; i++) {
            c.due("" + LETTERS.charAt(i), y.term(LETTERS.charAt(i)), due[i]);
        }
        c.says(s, "At first h1;c2;l50;d30;e1;s200;t900;w3");
        atFirst(c, "new", new GownLet());
        GownLet z = new GownLet();
        Check.terms(z, "h9;c9;l9;d9;e9;s9;t9;w0");
        c.due("the text of the first", Check.terms(z, "h1;c2;l50;d30;e1;s200;t900;w3"), 8);
        atFirst(c, "told so", z);
    }

    private static void finish(Check c, Section s) {
        c.says(s, "FAULTS: -20 less the place of the first byte (behind blanks) that can't stand there");
        read(c, "x", -20);
        read(c, "  x", -22);
        read(c, "e x", -22);
        read(c, "e 1 x", -24);
        read(c, "e1; x1", -24);
        read(c, "e1;h2;x", -26);
        read(c, "x;y", -20);
        read(c, "e1x;y", -22);
        read(c, blanks(59) + "x", -79);
        read(c, blanks(58) + "e1", 1);
        read(c, blanks(59) + "e", -80);
        c.says(s, "(the end: how many bytes there are)");
        read(c, "", -20);
        read(c, " ", -21);
        read(c, "e", -21);
        read(c, "e  ", -23);
        read(c, "e1;", -23);
        read(c, "e1;  ", -25);
        read(c, "e1;h", -24);
        read(c, blanks(60), -80);
        read(c, "e1;e1;e1;e1;e1;e1;e1;", -41);
        c.says(s, "bytes 32 count for nothing");
        read(c, " e1", 1);
        read(c, "e 1", 1);
        read(c, "e1 ", 1);
        read(c, "e1 ;h2", 2);
        read(c, "e1; h2", 2);
        read(c, "   e   1   ;   h   2   ", 2);
        read(c, " h 1 ; c 1 ; l 1 ; d 1 ; e 1 ; s 1 ; t 1 ; w 1 ", 8);
        c.says(s, "but do not stand in a number");
        read(c, "l1 0", -23);
        read(c, "l1  0", -24);
        read(c, "l 9 9 9", -24);
        read(c, "e1 1", -23);
        c.says(s, "of a number beyond its first byte");
        read(c, "e10", -21);
        read(c, "e  10", -23);
        read(c, "e010", -21);
        read(c, "e10x", -21);
        read(c, "e10;x", -21);
        read(c, "h1;d101", -24);
        read(c, blanks(57) + "e10", -78);
        c.says(s, "a ninth CLAUSE's ; can't");
        read(c, "e1;e1;e1;e1;e1;e1;e1;e1;", -43);
        read(c, "e1;e1;e1;e1;e1;e1;e1;e1  ;e1", -45);
        read(c, "e1;e1;e1;e1;e1;e1;e1;e1;e10", -43);
        read(c, "e1;e1;e1;e1;e1;e1;e1;e10;e1", -42);
        read(c, "e1;e1;e1;e1;e1;e1;e1;e1e;", -43);
        c.allSaid(s);
    }

    /** Whatever is wrong, TERMS stay as they were told before, and the next text is read as ever. */
    private static void faults(Check c) {
        GownLet x = new GownLet();
        Check.terms(x, "h2;c3;l4;d5;e6;s7;t8;w1");
        int[] due = {2, 3, 4, 5, 6, 7, 8, 1};
        for (String wrong : new String[] {"", " ", "h9;c", "h9;c9;l9;d9;e9;s9;t9;w4", "h9;", "h9;c10", "h9 9", "h9;c9;l9;d9;e9;s9;t9;w3;"}) {
            c.holds("a fault: " + wrong, Check.terms(x, wrong) <= -20);
            for (int i = 0; i < 8; i++) {
                c.due("behind \"" + wrong + "\" " + LETTERS.charAt(i), x.term(LETTERS.charAt(i)), due[i]);
            }
        }
        c.due("read as ever", Check.terms(x, "w0"), 1);
        c.due("w", x.term('w'), 0);
    }

    private static void newObject(Check c) {
        Section s = Section.promise(1);
        c.says(s, "Nothing is there");
        GownLet x = new GownLet();
        for (int what = 0; what <= 7; what++) {
            c.due("count " + what, x.count(what), 0);
        }
        c.due("no piece", x.told(0, 0), BAD);
        c.due("no booking", x.has(0), BAD);
        for (int party = 0; party <= 4; party++) {
            c.due("party " + party, x.match(party, 2), GownLet.NONE);
        }
        c.due("nothing known", x.asOf(399, 0, 0, 0), 0);
        c.due("no quarrel", x.quarrel(), 0);
        for (int sheet = 0; sheet <= 3; sheet++) {
            c.due("sheet " + sheet, x.drop(sheet), NULL);
        }
        c.due("the tape is empty", x.type('e', 1), 1);
        GownLet y = new GownLet();
        c.due("no byte is there", y.terms(), -20);
        c.says(s, "TERMS as at first");
        atFirst(c, "new", new GownLet());
        c.allSaid(s);
    }

    private static void type(Check c) {
        Section s = Section.promise(2);
        c.says(s, "The n lowest bytes (1 .. 8) of w");
        for (int n = 1; n <= 8; n++) {
            GownLet x = new GownLet();
            c.due("n " + n, x.type(Check.packed("   e1;h2"), n), n);
            int[] due = {-20, 1, -20, -20, 2, 2, 2, 2};
            c.due("n " + n + " is read", x.terms(), due[n - 1]);
        }
        long trash = 0xFF00801F7F000000L;
        c.due("what is above counts for nothing", new GownLet().type(trash | Check.packed("e12"), 3), 3);
        c.due("even below 0", new GownLet().type(MIN & ~0xFFL | 'e', 1), 1);
        c.says(s, "of these the highest first");
        GownLet x = new GownLet();
        c.due("d012", x.type(Check.packed("d012"), 4), 4);
        c.due("is read", x.terms(), 1);
        c.due("not 210", x.term('d'), 12);
        c.due("e9", x.type(Check.packed("   e   8"), 8), 8);
        c.due("is read", x.terms(), 1);
        c.due("by its first and its last byte", x.term('e'), 8);
        c.says(s, "come behind THE TAPE");
        GownLet y = new GownLet();
        y.type('l', 1);
        y.type('2', 1);
        y.type(Check.packed("34"), 2);
        c.due("is read", y.terms(), 1);
        c.due("in the order of typing", y.term('l'), 234);
        c.says(s, "how many it has");
        GownLet z = new GownLet();
        c.due("1", z.type('e', 1), 1);
        c.due("9", z.type(Check.packed("        "), 8), 9);
        c.due("12", z.type(Check.packed("  1"), 3), 12);
        typeRefused(c, s);
    }

    private static void typeRefused(Check c, Section s) {
        c.says(s, "BAD: n");
        long eight = Check.packed("h2;h2;h2");
        for (int n : new int[] {0, 9, -1, 16, 64, MIN, MAX}) {
            Refusal.due(c, "n " + n, Scenes::shop, x -> x.type(eight, n), BAD);
        }
        c.says(s, "a byte not 32 .. 126");
        for (int n = 1; n <= 8; n++) {
            for (int place = 0; place < n; place++) {
                long without = eight & ~(255L << 8 * place);
                for (int sign : new int[] {31, 127}) {
                    long w = without | (long) sign << 8 * place;
                    int length = n;
                    Refusal.due(c, "byte " + sign + " at " + place + " of " + n, Scenes::shop, x -> x.type(w, length), BAD);
                }
            }
        }
        for (int sign = 0; sign <= 255; sign++) {
            boolean isGood = sign >= 32 && sign <= 126;
            c.due("byte " + sign, new GownLet().type(sign, 1), isGood ? 1 : BAD);
            c.due("byte " + sign + ", the highest", new GownLet().type((long) sign << 56 | eight & -1L >>> 8, 8), isGood ? 8 : BAD);
        }
        c.says(s, "FULL: 60");
        for (int n = 1; n <= 8; n++) {
            GownLet x = new GownLet();
            Check.type(x, blanks(60 - n));
            c.due("60 by " + n, x.type(eight & -1L >>> 64 - 8 * n, n), 60);
            c.due("61", x.type('h', 1), FULL);
            GownLet y = new GownLet();
            Check.type(y, blanks(61 - n));
            c.due("61 by " + n, y.type(eight, n), FULL);
            c.due("nothing of it came", n == 1 ? 60 : y.type(' ', 1), n == 1 ? 60 : 62 - n);
        }
        Refusal.due(c, "full", Scenes::fullTape, x -> x.type('h', 1), FULL);
        Refusal.due(c, "full by eight", Scenes::fullTape, x -> x.type(eight, 8), FULL);
        Refusal.due(c, "BAD ahead of FULL, n 0", Scenes::fullTape, x -> x.type('h', 0), BAD);
        Refusal.due(c, "BAD ahead of FULL, n 9", Scenes::fullTape, x -> x.type(eight, 9), BAD);
        Refusal.due(c, "BAD ahead of FULL, 31", Scenes::fullTape, x -> x.type(31, 1), BAD);
        GownLet again = Scenes.fullTape();
        again.terms();
        c.due("room again behind terms()", again.type(eight, 8), 8);
        c.allSaid(s);
    }

    private static void terms(Check c) {
        Section s = Section.promise(3);
        c.says(s, "THE TAPE, which is empty then (whatever is answered)");
        for (String text : new String[] {"", "e2", "e2;h2", "e", "x", "e10", blanks(60), "e1;e1;e1;e1;e1;e1;e1;e1;"}) {
            GownLet x = new GownLet();
            Check.type(x, text);
            x.terms();
            c.due("one byte behind \"" + text + "\"", x.type('h', 1), 1);
            c.due("it alone is read", x.terms(), -21);
            c.due("and nothing", x.terms(), -20);
        }
        c.says(s, "is TERMS");
        GownLet x = new GownLet();
        Check.type(x, "e2");
        c.due("typed, but not TERMS yet", x.term('e'), 1);
        x.terms();
        c.due("TERMS now", x.term('e'), 2);
        c.says(s, "how many CLAUSES");
        StringBuilder text = new StringBuilder();
        for (int n = 1; n <= 8; n++) {
            text.append(n == 1 ? "" : ";").append("e").append(n);
            c.due(n + " clauses", Check.terms(x, text.toString()), n);
            c.due("the last holds", x.term('e'), n);
        }
        c.says(s, "a FAULT (TERMS stay)");
        Refusal.due(c, "h1;c", () -> read(Scenes.shop()), GownLet::terms, -20);
        Refusal.due(c, "a fault behind good ones", () -> read(Scenes.shop()), y -> Check.terms(y, "h9;c9;l9;d9;e9;s9;t9;w4"), -42);
        Refusal.due(c, "an end too early", () -> read(Scenes.shop()), y -> Check.terms(y, "e9;"), -23);
        c.allSaid(s);
    }

    /** The shop with its tape read: "h1;c" is a FAULT. */
    private static GownLet read(GownLet x) {
        x.terms();
        return x;
    }

    private static void term(Check c) {
        Section s = Section.promise(4);
        c.says(s, "A TERM by its letter (a byte)");
        GownLet x = new GownLet();
        Check.terms(x, "h2;c3;l4;d5;e6;s7;t8;w1");
        int[] due = {2, 3, 4, 5, 6, 7, 8, 1};
        for (int i = 0; i < 8; i++) {
            c.due("" + LETTERS.charAt(i), x.term(LETTERS.charAt(i)), due[i]);
        }
        c.says(s, "BAD");
        GownLet y = new GownLet();
        for (int letter = 0; letter <= 255; letter++) {
            if (LETTERS.indexOf(letter) < 0) {
                c.due("letter " + letter, y.term(letter), BAD);
            }
        }
        for (int i = 0; i < 8; i++) {
            int letter = LETTERS.charAt(i);
            for (int other : new int[] {letter - 256, letter + 256, letter - 32, -letter, letter << 8, letter | 1 << 31, letter + 65536}) {
                c.due("letter " + other, y.term(other), BAD);
            }
        }
        for (int letter : new int[] {-1, 0, 'H', ' ', ';', '1', MIN, MAX}) {
            Refusal.due(c, "letter " + letter, Scenes::shop, z -> z.term(letter), BAD);
        }
        c.allSaid(s);
    }

    private static void post(Check c) {
        Section s = Section.promise(5);
        c.says(s, "POST between two TOWNS");
        Refusal.bounds(c, "post", Scenes::shop, BAD, new int[] {3, 5, 5}, new int[][] {{0, 8}, {0, 8}, {0, 9}},
                (x, n) -> x.post(n[0], n[1], n[2]));
        for (int[] between : new int[][] {{0, 1}, {0, 8}, {7, 8}, {1, 0}, {8, 0}, {8, 7}}) {
            for (int days = 0; days <= 9; days++) {
                GownLet x = away(between[0], between[1]);
                c.due("was 1", x.post(between[0], between[1], days), 1);
                c.due("days ahead", x.away(0, 0, 0), 99 - days);
                c.due("days behind", x.away(0, 0, 1), 102 + days);
            }
        }
        c.says(s, "what it was");
        GownLet x = new GownLet();
        c.due("at first", x.post(4, 6, 0), 1);
        c.due("then 0", x.post(4, 6, 9), 0);
        c.due("then 9", x.post(6, 4, 9), 9);
        c.due("9 still", x.post(4, 6, 3), 9);
        c.says(s, "BAD: also one TOWN");
        for (int town = 0; town <= 8; town++) {
            int one = town;
            Refusal.due(c, "within " + town, Scenes::shop, y -> y.post(one, one, 0), BAD);
            Refusal.due(c, "within " + town, Scenes::shop, y -> y.post(one, one, 3), BAD);
        }
        Refusal.due(c, "one that is no town", Scenes::shop, y -> y.post(9, 9, 3), BAD);
        c.allSaid(s);
    }

    private static GownLet away(int a, int b) {
        GownLet x = new GownLet();
        x.gown(0, 10, 0, a, 100, 9);
        x.book(10, 0, 100, b, 0, -1);
        return x;
    }
}
