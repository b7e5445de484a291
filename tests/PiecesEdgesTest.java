/** Part 2 and promises 6 to 14, sentence by sentence: the edges, and what is refused. */
final class PiecesEdgesTest {
    private static final int BAD = GownLet.BAD, NOT = GownLet.NOT, FULL = GownLet.FULL, NONE = GownLet.NONE, CAST = GownLet.CAST;
    private static final int MIN = Integer.MIN_VALUE, MAX = Integer.MAX_VALUE;
    private static final String[] KINDS = {"gown", "longGown", "suit"};
    private static final int[][] ENDS = {{0, 5}, {1, 40}, {0, 9}, {0, 8}, {1, 9999}, {1, 99}};

    public static void main(String[] args) {
        Check c = new Check();
        pieces(c);
        for (int kind = 0; kind <= 2; kind++) {
            coming(c, kind);
        }
        hem(c);
        told(c);
        same(c);
        lie(c);
        quarrel(c);
        fits(c);
        c.end();
    }

    private static int add(GownLet x, int kind, int... n) {
        switch (kind) {
            case 0: return x.gown(n[0], n[1], n[2], n[3], n[4], n[5]);
            case 1: return x.longGown(n[0], n[1], n[2], n[3], n[4], n[5]);
            default: return x.suit(n[0], n[1], n[2], n[3], n[4], n[5]);
        }
    }

    private static GownLet one(int kind, int... n) {
        GownLet x = new GownLet();
        add(x, kind, n);
        return x;
    }

    private static GownLet withDoubles(int... fours) {
        GownLet x = new GownLet();
        for (int i = 0; i + 3 < fours.length; i += 4) {
            x.same(fours[i], fours[i + 1], fours[i + 2], fours[i + 3]);
        }
        return x;
    }

    /** LOW and HIGH of a MAKER; that there is no QUARREL. */
    private static void lies(Check c, String what, GownLet x, int maker, int low, int high) {
        c.due(what + ": quarrel", x.quarrel(), 0);
        c.due(what + ": low of " + maker, x.lie(maker, 0), low);
        c.due(what + ": high of " + maker, x.lie(maker, 1), high);
    }

    private static void open(Check c, String what, GownLet x) {
        for (int maker = 0; maker <= 5; maker++) {
            c.due(what + ": low of " + maker, x.lie(maker, 0), maker == 0 ? 0 : -9);
            c.due(what + ": high of " + maker, x.lie(maker, 1), maker == 0 ? 0 : 9);
        }
    }

    private static void pieces(Check c) {
        Section s = Section.part(2);
        c.says(s, "TOWNS 0 .. 8");
        for (int town = 0; town <= 8; town++) {
            c.due("town " + town, one(0, 0, 10, 0, town, 100, 9).told(0, 4), town);
        }
        c.says(s, "POST between two takes 0 .. 9 days");
        GownLet x = new GownLet();
        for (int days = 0; days <= 9; days++) {
            c.due("takes", x.post(1, 2, days), days == 0 ? 1 : days - 1);
        }
        c.says(s, "(both ways alike");
        for (int a = 0; a <= 8; a++) {
            for (int b = 0; b <= 8; b++) {
                if (a != b) {
                    GownLet y = new GownLet();
                    y.post(a, b, 7);
                    c.due(a + " to " + b, y.post(b, a, 0), 7);
                    c.due("and back", y.post(a, b, 0), 0);
                }
            }
        }
        c.says(s, "1 at first");
        GownLet y = new GownLet();
        for (int a = 0; a <= 8; a++) {
            for (int b = a + 1; b <= 8; b++) {
                c.due(a + " to " + b, y.post(b, a, 9), 1);
            }
        }
        c.says(s, "within one 0)");
        for (int town = 0; town <= 8; town++) {
            GownLet z = one(0, 0, 10, 0, town, 100, 9);
            z.book(10, 0, 100, town, 0, -1);
            c.due("first within " + town, z.away(0, 0, 0), 99);
            c.due("last within " + town, z.away(0, 0, 1), 102);
        }
        c.says(s, "MAKERS 0 .. 5");
        for (int maker = 0; maker <= 5; maker++) {
            c.due("maker " + maker, one(2, maker, 10, 0, 0, 100, 9).told(0, 1), maker);
        }
        kinds(c, s);
        details(c, s);
        doubles(c, s);
        bodies(c, s);
    }

    private static void kinds(Check c, Section s) {
        c.says(s, "PIECES 0 .. 23, as they come, are of KINDS: 0 GOWN; below it 1 LONG GOWN");
        GownLet x = new GownLet();
        for (int i = 0; i < 24; i++) {
            c.due("number", add(x, i * 5 % 3, 0, 10, 0, 0, 100, 9), i);
        }
        for (int i = 0; i < 24; i++) {
            c.due("kind of " + i, x.told(i, 0), i * 5 % 3);
        }
        c.due("24 there are", x.told(23, 2), 10);
        c.due("24 is none", x.told(24, 2), BAD);
        c.says(s, "2 SUIT");
        c.due("kind", one(2, 0, 10, 0, 0, 100, 9).told(0, 0), 2);
        c.says(s, "(with a HEM: 0 at first");
        GownLet y = one(1, 0, 10, 0, 0, 100, 9);
        Check.terms(y, "e0");
        c.due("10", y.fits(0, 10, 1), 2);
        c.due("9", y.fits(0, 9, 1), 0);
        c.due("11", y.fits(0, 11, 1), 0);
        c.says(s, "let down by 1 .. 3");
        for (int by = 1; by <= 3; by++) {
            GownLet z = one(1, 0, 10, 0, 0, 100, 9);
            Check.terms(z, "e0");
            c.due("by " + by, z.hem(0, by), 1);
            for (int size = 7; size <= 15; size++) {
                c.due("size " + size, z.fits(0, size, 1), size == 10 + by ? 2 : 0);
            }
        }
        c.says(s, "once)");
        GownLet z = one(1, 0, 10, 0, 0, 100, 9);
        Check.terms(z, "e0");
        z.hem(0, 1);
        c.due("twice", z.hem(0, 2), NOT);
        c.due("once only", z.fits(0, 11, 1), 2);
    }

    private static void details(Check c, Section s) {
        c.says(s, "Each has a MAKER");
        c.due("maker", one(0, 3, 10, 5, 7, 100, 9).told(0, 1), 3);
        String[] words = {"a LABEL (1 .. 40)", "a LOT of colour (0 .. 9)", "a TOWN", "a PRICE (1 .. 9999 pence)", "a LIFE (1 .. 99 nights)"};
        int[] what = {2, 3, 4, 5, 7};
        for (int k = 1; k <= 5; k++) {
            c.says(s, words[k - 1]);
            for (int kind = 0; kind <= 2; kind++) {
                for (int number : ENDS[k]) {
                    int[] n = {1, 20, 5, 4, 500, 50};
                    n[k] = number;
                    c.due(KINDS[kind] + " with " + number, one(kind, n).told(0, what[k - 1]), k == 5 ? 500 : number);
                }
            }
        }
        for (int life : ENDS[5]) {
            GownLet x = one(0, 0, 10, 0, 0, 9999, life);
            x.book(10, 0, 100, 0, 0, -1);
            x.give(0);
            x.out(0, 0);
            x.home(0, 100, 0);
            c.due("worth of a life of " + life, x.told(0, 7), life == 1 ? 0 : 9898);
            c.due("worn out by a life of " + life, x.told(0, 8), life == 1 ? 1 : 0);
        }
    }

    private static void doubles(Check c, Section s) {
        c.says(s, "DOUBLES 0 .. 19, as they come");
        GownLet x = new GownLet();
        for (int i = 0; i < 20; i++) {
            c.due("number", x.same(i % 5, 10, 5, 10), i);
        }
        c.due("20", x.same(0, 10, 1, 10), FULL);
        c.says(s, "LABEL x of MAKER a fits just a body that LABEL y of MAKER b fits: x and LIE of a is no more than 1 from y and LIE of b");
        for (int apart = -10; apart <= 10; apart++) {
            int low = Math.max(-9, apart - 1);
            int high = Math.min(9, apart + 1);
            lies(c, "0 is " + apart + " above 1", withDoubles(0, 20 + apart, 1, 20), 1, low, high);
            lies(c, "told the other way", withDoubles(1, 20, 0, 20 + apart), 1, low, high);
        }
        lies(c, "the least and the greatest LABEL", withDoubles(0, 1, 1, 1, 0, 40, 2, 40), 1, -1, 1);
        lies(c, "the least and the greatest LABEL", withDoubles(0, 1, 1, 1, 0, 40, 2, 40), 2, -1, 1);
        c.says(s, "LIES are whole numbers -9 .. 9");
        lies(c, "8 or 9, not 10", withDoubles(0, 19, 1, 10), 1, 8, 9);
        lies(c, "9, not 10, 11", withDoubles(0, 20, 1, 10), 1, 9, 9);
        lies(c, "-8 or -9", withDoubles(0, 10, 1, 19), 1, -9, -8);
        lies(c, "-9", withDoubles(0, 10, 1, 20), 1, -9, -9);
        lies(c, "17 to 19 apart, 17 or 18 can be", withDoubles(1, 40, 2, 22), 1, -9, -8);
        lies(c, "17 to 19 apart, 17 or 18 can be", withDoubles(1, 40, 2, 22), 2, 8, 9);
        lies(c, "18 to 20 apart, 18 can be", withDoubles(4, 40, 5, 21), 4, -9, -9);
        lies(c, "18 to 20 apart, 18 can be", withDoubles(4, 40, 5, 21), 5, 9, 9);
        c.due("19 to 21 apart can't be", withDoubles(4, 40, 5, 20).quarrel(), 1);
        c.due("19 to 21 apart can't be", withDoubles(4, 20, 5, 40).quarrel(), 1);
        c.says(s, "that of MAKER 0 is 0");
        lies(c, "0 lies by 0", withDoubles(0, 13, 1, 10), 0, 0, 0);
        lies(c, "so 1 does not", withDoubles(0, 13, 1, 10), 1, 2, 4);
        lowAndHigh(c, s);
    }

    private static void lowAndHigh(Check c, Section s) {
        c.says(s, "LOW, HIGH of a MAKER: the least, greatest of its LIE in all LIES for which all DOUBLES hold");
        open(c, "no DOUBLES", new GownLet());
        GownLet x = withDoubles(0, 10, 1, 10, 1, 10, 2, 10, 2, 10, 3, 10, 3, 10, 4, 10, 4, 10, 5, 10);
        for (int maker = 0; maker <= 5; maker++) {
            lies(c, "a row of MAKERS", x, maker, -maker, maker);
        }
        x.same(5, 10, 0, 10);
        int[] most = {0, 1, 2, 3, 2, 1};
        for (int maker = 0; maker <= 5; maker++) {
            lies(c, "a ring of MAKERS", x, maker, -most[maker], most[maker]);
        }
        lies(c, "two DOUBLES of the same MAKERS", withDoubles(0, 12, 1, 10, 0, 10, 1, 10), 1, 1, 1);
        lies(c, "one DOUBLE twice", withDoubles(0, 12, 1, 10, 0, 12, 1, 10), 1, 1, 3);
        lies(c, "through a MAKER that has no DOUBLE with 0", withDoubles(3, 10, 4, 16), 3, -4, 9);
        lies(c, "through a MAKER that has no DOUBLE with 0", withDoubles(3, 10, 4, 16), 4, -9, 4);
        c.says(s, "QUARREL: there are none");
        c.due("just so", withDoubles(0, 12, 1, 10, 0, 10, 1, 10).quarrel(), 0);
        c.due("out by one", withDoubles(0, 13, 1, 10, 0, 10, 1, 10).quarrel(), 1);
        c.due("a ring just so", withDoubles(1, 10, 2, 12, 2, 10, 3, 12, 3, 10, 1, 9).quarrel(), 0);
        c.due("a ring out by one", withDoubles(1, 10, 2, 12, 2, 10, 3, 12, 3, 10, 1, 10).quarrel(), 1);
        c.due("9 holds", withDoubles(0, 20, 1, 10).quarrel(), 0);
        c.due("10 does not", withDoubles(0, 21, 1, 10).quarrel(), 1);
        c.due("-9 holds", withDoubles(0, 10, 1, 20).quarrel(), 0);
        c.due("-10 does not", withDoubles(0, 10, 1, 21).quarrel(), 1);
        c.says(s, "(then LOW, HIGH are -9, 9; 0, 0 of MAKER 0)");
        GownLet y = withDoubles(0, 10, 2, 10, 0, 21, 1, 10);
        open(c, "a quarrel of 1 alone", y);
        y.same(0, 10, 3, 10);
        open(c, "a DOUBLE behind it", y);
        c.due("it stays", y.quarrel(), 1);
    }

    private static void bodies(Check c, Section s) {
        c.says(s, "BODIES have a SIZE 1 .. 40");
        for (int label : new int[] {1, 2, 39, 40}) {
            GownLet x = one(0, 0, label, 0, 0, 100, 9);
            for (int size = 1; size <= 40; size++) {
                c.due("label " + label + " size " + size, x.fits(0, size, 0), Math.abs(label - size) <= 1 ? 2 : 0);
            }
        }
        c.says(s, "and want GOWNS (LONG ones, too), LONG GOWNS alone, or SUITS");
        int[][] wanted = {{2, 0, 0}, {2, 2, 0}, {0, 0, 2}};
        for (int kind = 0; kind <= 2; kind++) {
            for (int wants = 0; wants <= 2; wants++) {
                GownLet x = one(kind, 0, 10, 0, 0, 100, 9);
                c.due(KINDS[kind] + " for " + wants, x.fits(0, 10, wants), wanted[kind][wants]);
                x.book(10, wants, 100, 0, 0, -1);
                c.due(KINDS[kind] + " given to " + wants, x.give(0), wanted[kind][wants] == 2 ? 0 : NONE);
            }
        }
        c.says(s, "A PIECE FITS a body, if it is of a KIND that is wanted, and LABEL, LIE and HEM together are no further than EASE from SIZE for each LIE of LOW .. HIGH (SURELY)");
        fitsBy(c, withDoubles(0, 12, 1, 10), true);
        c.says(s, "MAY FIT, if for some");
        fitsBy(c, withDoubles(0, 12, 1, 10), false);
        offIs(c, s);
    }

    /** LIE 1 .. 3, LABEL 10, HEM 2, so 13 .. 15, by each EASE. */
    private static void fitsBy(Check c, GownLet x, boolean surely) {
        x.longGown(1, 10, 0, 0, 100, 9);
        x.hem(0, 2);
        for (int ease = 0; ease <= 9; ease++) {
            Check.terms(x, "e" + ease);
            for (int size = 1; size <= 30; size++) {
                boolean isSure = size >= 15 - ease && size <= 13 + ease;
                boolean isMaybe = size >= 13 - ease && size <= 15 + ease;
                int due = isSure ? 2 : isMaybe ? 1 : 0;
                if (surely == (due != 1)) {
                    c.due("ease " + ease + " size " + size, x.fits(0, size, 1), due);
                }
            }
        }
    }

    private static void offIs(Check c, Section s) {
        c.says(s, "OFF is how far LABEL, LOW and HEM together are from SIZE");
        int[][] labels = {{11, 10, 1}, {10, 11, 0}, {9, 12, 0}, {12, 9, 1}, {9, 11, 0}};
        for (int[] two : labels) {
            GownLet x = new GownLet();
            Check.terms(x, "e9");
            x.gown(0, two[0], 0, 0, 100, 9);
            x.gown(0, two[1], 0, 0, 100, 9);
            x.book(10, 0, 100, 0, 0, -1);
            c.due(two[0] + " or " + two[1] + " for 10", x.give(0), two[2]);
        }
        GownLet x = withDoubles(0, 12, 1, 10);
        Check.terms(x, "e9");
        x.gown(1, 8, 0, 0, 100, 9);
        x.gown(1, 9, 0, 0, 100, 9);
        x.book(10, 0, 100, 0, 0, -1);
        c.due("by LOW 1: 9 and 10, not by HIGH 3 or the midst", x.give(0), 1);
        GownLet y = new GownLet();
        y.longGown(0, 9, 0, 0, 100, 9);
        y.longGown(0, 8, 0, 0, 100, 9);
        y.hem(1, 2);
        y.book(10, 1, 100, 0, 0, -1);
        c.due("by HEM: 9 and 10", y.give(0), 1);
        c.allSaid(s);
    }

    private static void coming(Check c, int kind) {
        Section s = Section.promise(6 + kind);
        c.says(s, new String[] {"A GOWN", "A LONG GOWN", "A SUIT"}[kind]);
        for (int end = 0; end <= 1; end++) {
            int[] n = new int[6];
            for (int k = 0; k < 6; k++) {
                n[k] = ENDS[k][end];
            }
            GownLet x = one(kind, n);
            int[] due = {kind, n[0], n[1], n[2], n[3], n[4], 0, n[4], 0, NONE};
            for (int what = 0; what <= 9; what++) {
                c.due("told " + what, x.told(0, what), due[what]);
            }
        }
        c.says(s, ": its number");
        GownLet x = new GownLet();
        for (int i = 0; i < 24; i++) {
            c.due("number", add(x, kind, 5, 40, 9, 8, 9999, 99), i);
        }
        c.says(s, "BAD");
        Refusal.bounds(c, KINDS[kind], Scenes::shop, BAD, new int[] {1, 20, 5, 4, 500, 50}, ENDS, (y, n) -> add(y, kind, n));
        Refusal.bounds(c, KINDS[kind] + ", BAD ahead of FULL", Scenes::fullPieces, BAD, new int[] {1, 20, 5, 4, 500, 50}, ENDS,
                (y, n) -> add(y, kind, n));
        c.says(s, kind == 0 ? "FULL: 24" : "FULL");
        c.due("25 of a kind", add(x, kind, 5, 40, 9, 8, 9999, 99), FULL);
        Refusal.due(c, "25", Scenes::fullPieces, y -> add(y, kind, 0, 10, 0, 0, 100, 9), FULL);
        GownLet y = Scenes.fullPieces();
        y.retire(0);
        c.due("retired ones are PIECES still", add(y, kind, 0, 10, 0, 0, 100, 9), FULL);
        c.allSaid(s);
    }

    private static void hem(Check c) {
        Section s = Section.promise(9);
        c.says(s, "A HEM is let down: 1");
        GownLet x = Scenes.shop();
        c.due("by 3", x.hem(Scenes.WAS_OUT, 3), 1);
        c.due("13", x.fits(Scenes.WAS_OUT, 14, 1), 2);
        c.says(s, "BAD (by 1 .. 3)");
        Refusal.bounds(c, "hem", Scenes::shop, BAD, new int[] {Scenes.WAS_OUT, 2}, new int[][] {{0, Scenes.PIECES - 1}, {1, 3}},
                (y, n) -> y.hem(n[0], n[1]));
        Refusal.due(c, "BAD ahead of CAST", Scenes::shop, y -> y.hem(Scenes.SUIT, 0), BAD);
        Refusal.due(c, "BAD ahead of CAST", Scenes::shop, y -> y.hem(Scenes.HAD, 4), BAD);
        Refusal.due(c, "BAD ahead of NOT", Scenes::shop, y -> y.hem(Scenes.IS_OUT, 0), BAD);
        Refusal.due(c, "no pieces at all", Scenes::empty, y -> y.hem(0, 1), BAD);
        c.says(s, "CAST");
        Refusal.due(c, "a GOWN", Scenes::shop, y -> y.hem(Scenes.HAD, 1), CAST);
        Refusal.due(c, "a SUIT", Scenes::shop, y -> y.hem(Scenes.SUIT, 3), CAST);
        c.says(s, "NOT: it was");
        for (int by = 1; by <= 3; by++) {
            int again = by;
            Refusal.due(c, "again by " + by, Scenes::shop, y -> y.hem(Scenes.IS_OUT, again), NOT);
        }
        c.allSaid(s);
    }

    /** A PIECE that has been worn so many nights, all given ahead of the first. */
    private static GownLet worn(int price, int life, int nights) {
        GownLet x = one(0, 0, 10, 0, 0, price, life);
        for (int i = 0; i < nights; i++) {
            x.book(10, 0, 20 + 5 * i, 0, 0, -1);
            x.give(i);
        }
        for (int i = 0; i < nights; i++) {
            x.out(i, 0);
            x.home(i, 20 + 5 * i, 0);
        }
        return x;
    }

    private static void told(Check c) {
        Section s = Section.promise(10);
        String[] words = {"Of a PIECE: 0 KIND", "1 MAKER", "2 LABEL", "3 LOT", "4 TOWN", "5 PRICE"};
        int[] due = {1, 3, 17, 8, 5, 4321};
        for (int what = 0; what < 6; what++) {
            c.says(s, words[what]);
            GownLet x = Scenes.shop();
            x.longGown(3, 17, 8, 5, 4321, 9);
            c.due("told", x.told(Scenes.PIECES, what), due[what]);
        }
        c.says(s, "6 nights worn");
        for (int nights = 0; nights <= 6; nights++) {
            c.due(nights + " nights", worn(1000, 4, nights).told(0, 6), nights);
        }
        c.says(s, "7 WORTH");
        int[] worth = {1000, 750, 500, 250, 0, 0, 0};
        for (int nights = 0; nights <= 6; nights++) {
            c.due(nights + " nights of 4", worn(1000, 4, nights).told(0, 7), worth[nights]);
        }
        c.says(s, "8 whether RETIRED");
        for (int nights = 0; nights <= 6; nights++) {
            c.due(nights + " nights of 4", worn(1000, 4, nights).told(0, 8), nights >= 4 ? 1 : 0);
        }
        GownLet x = Scenes.shop();
        c.due("not told so", x.told(Scenes.BELOW, 8), 0);
        c.due("told so", x.told(Scenes.RETIRED, 8), 1);
        c.says(s, "9 from when TORN (NONE)");
        c.due("whole", x.told(Scenes.HAD, 9), NONE);
        c.due("torn", x.told(Scenes.TORN, 9), 150);
        x.tear(Scenes.HAD, 0);
        c.due("torn from 0", x.told(Scenes.HAD, 9), 0);
        x.tear(Scenes.SUIT, 399);
        c.due("torn from 399", x.told(Scenes.SUIT, 9), 399);
        x.mend(Scenes.TORN);
        c.due("mended", x.told(Scenes.TORN, 9), NONE);
        c.says(s, "BAD");
        Refusal.bounds(c, "told", Scenes::shop, BAD, new int[] {3, 3}, new int[][] {{0, Scenes.PIECES - 1}, {0, 9}}, (y, n) -> y.told(n[0], n[1]));
        Refusal.bounds(c, "told of 24", Scenes::fullPieces, BAD, new int[] {3, 3}, new int[][] {{0, 23}, {0, 9}}, (y, n) -> y.told(n[0], n[1]));
        Refusal.due(c, "no pieces at all", Scenes::empty, y -> y.told(0, 0), BAD);
        c.allSaid(s);
    }

    private static void same(Check c) {
        Section s = Section.promise(11);
        c.says(s, "A DOUBLE: its number");
        GownLet x = new GownLet();
        for (int i = 0; i < 20; i++) {
            c.due("number", x.same(i % 6, 1 + i, (i + 1) % 6, 40 - i), i);
            c.due("so many", x.count(3), i + 1);
        }
        c.says(s, "BAD");
        Refusal.bounds(c, "same", Scenes::shop, BAD, new int[] {2, 20, 3, 20}, new int[][] {{0, 5}, {1, 40}, {0, 5}, {1, 40}},
                (y, n) -> y.same(n[0], n[1], n[2], n[3]));
        c.says(s, ": also one MAKER");
        for (int maker = 0; maker <= 5; maker++) {
            int one = maker;
            Refusal.due(c, "maker " + maker, Scenes::shop, y -> y.same(one, 10, one, 10), BAD);
            Refusal.due(c, "maker " + maker, Scenes::shop, y -> y.same(one, 10, one, 30), BAD);
        }
        c.says(s, "FULL: 20");
        Refusal.due(c, "a 21st", Scenes::fullDoubles, y -> y.same(3, 10, 4, 10), FULL);
        Refusal.due(c, "a 21st that would QUARREL", Scenes::fullDoubles, y -> y.same(0, 40, 4, 1), FULL);
        Refusal.bounds(c, "BAD ahead of FULL", Scenes::fullDoubles, BAD, new int[] {2, 20, 3, 20},
                new int[][] {{0, 5}, {1, 40}, {0, 5}, {1, 40}}, (y, n) -> y.same(n[0], n[1], n[2], n[3]));
        Refusal.due(c, "BAD ahead of FULL, one MAKER", Scenes::fullDoubles, y -> y.same(4, 10, 4, 10), BAD);
        c.allSaid(s);
    }

    private static void lie(Check c) {
        Section s = Section.promise(12);
        GownLet x = withDoubles(0, 14, 3, 10, 0, 15, 3, 10);
        c.says(s, "LOW (0)");
        c.due("of 3", x.lie(3, 0), 4);
        c.due("of 0", x.lie(0, 0), 0);
        c.due("of 5", x.lie(5, 0), -9);
        c.says(s, "HIGH (1) of a MAKER");
        c.due("of 3", x.lie(3, 1), 5);
        c.due("of 0", x.lie(0, 1), 0);
        c.due("of 5", x.lie(5, 1), 9);
        c.says(s, "BAD less 100 (-101)");
        Refusal.bounds(c, "lie", Scenes::shop, -101, new int[] {3, 0}, new int[][] {{0, 5}, {0, 1}}, (y, n) -> y.lie(n[0], n[1]));
        Refusal.due(c, "both", Scenes::shop, y -> y.lie(-1, 2), -101);
        c.due("nothing is one of the LIES", GownLet.BAD - 100, -101);
        c.allSaid(s);
    }

    private static void quarrel(Check c) {
        Section s = Section.promise(13);
        c.says(s, "Whether DOUBLES QUARREL: 1, 0");
        c.due("no DOUBLES", new GownLet().quarrel(), 0);
        c.due("one that holds", withDoubles(0, 10, 1, 10).quarrel(), 0);
        c.due("one that does not", withDoubles(0, 40, 1, 1).quarrel(), 1);
        GownLet x = Scenes.shop();
        for (int i = 1; i < 20; i++) {
            c.due("none yet", x.quarrel(), 0);
            x.same(0, 10, 1, i == 19 ? 40 : 12);
        }
        c.due("by the twentieth", x.quarrel(), 1);
        c.allSaid(s);
    }

    private static void fits(Check c) {
        Section s = Section.promise(14);
        c.says(s, "Whether a PIECE FITS a body: 2 SURELY, 1 MAY, 0 not");
        GownLet x = Scenes.shop();
        int[] due = {0, 0, 0, 0, 0, 0, 0, 1, 1, 2, 1, 1, 0};
        for (int size = 1; size <= 13; size++) {
            c.due("9 .. 11 for " + size, x.fits(Scenes.SUIT, size, 2), due[size - 1]);
            c.due("not wanted by " + size, x.fits(Scenes.SUIT, size, 0), 0);
        }
        x.same(0, 40, 5, 1);
        c.due("in a QUARREL 3 .. 21 for 2", x.fits(Scenes.SUIT, 2, 2), 1);
        c.due("in a QUARREL 3 .. 21 for 22", x.fits(Scenes.SUIT, 22, 2), 1);
        c.due("in a QUARREL 3 .. 21 for 1", x.fits(Scenes.SUIT, 1, 2), 0);
        c.due("in a QUARREL 3 .. 21 for 23", x.fits(Scenes.SUIT, 23, 2), 0);
        c.due("MAKER 0 lies by 0", x.fits(Scenes.HAD, 10, 0), 2);
        c.says(s, "BAD");
        Refusal.bounds(c, "fits", Scenes::shop, BAD, new int[] {3, 20, 1}, new int[][] {{0, Scenes.PIECES - 1}, {1, 40}, {0, 2}},
                (y, n) -> y.fits(n[0], n[1], n[2]));
        Refusal.due(c, "no pieces at all", Scenes::empty, y -> y.fits(0, 10, 0), BAD);
        c.says(s, "(wants 0 GOWNS, 1 LONG GOWNS, 2 SUITS)");
        int[][] wanted = {{2, 0, 0}, {2, 2, 0}, {0, 0, 2}};
        for (int kind = 0; kind <= 2; kind++) {
            for (int wants = 0; wants <= 2; wants++) {
                c.due(KINDS[kind] + " for " + wants, one(kind, 0, 10, 0, 0, 100, 9).fits(0, 10, wants), wanted[kind][wants]);
            }
        }
        for (int wants : new int[] {-1, 3, MIN, MAX}) {
            Refusal.due(c, "wants " + wants, Scenes::shop, y -> y.fits(3, 10, wants), BAD);
        }
        c.allSaid(s);
    }
}
