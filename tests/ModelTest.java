import java.util.Random;

/** Random runs of 512 calls: GownLet and Model must answer alike. */
final class ModelTest {
    private static final int RUNS = 800, CALLS = 512;
    private static final int[] ODD = {-1, -2, 400, Integer.MAX_VALUE, Integer.MIN_VALUE, 41, 24, 30, 10};

    private final Random random;
    private final GownLet x = new GownLet();
    private final Model m = new Model();
    private final Check c;
    private final int run;
    // How wide the numbers are strewn: narrow ones meet more often.
    private final int sizes, nights, towns, makers;
    private int booked, came;

    private static final int[] chains = new int[6];

    ModelTest(Check c, int run) {
        this.c = c;
        this.run = run;
        random = new Random(run);
        sizes = 1 + random.nextInt(run % 3 == 0 ? 12 : 4);
        nights = 1 + random.nextInt(run % 2 == 0 ? 30 : 8);
        towns = 1 + random.nextInt(3);
        makers = random.nextInt(3) == 0 ? 5 : 0;
    }

    public static void main(String[] args) {
        Check c = new Check();
        for (int run = 0; run < RUNS && !c.isWrong(); run++) {
            new ModelTest(c, run).calls();
        }
        System.out.println("chains of 1 to 4, none: " + chains[1] + " " + chains[2] + " " + chains[3] + " " + chains[4]
                + ", " + chains[0]);
        c.holds("chains of all lengths came", chains[1] > 0 && chains[2] > 0 && chains[3] > 0 && chains[4] > 0);
        c.end();
    }

    private void calls() {
        for (int i = 0; i < CALLS && !c.isWrong(); i++) {
            call("run " + run + " call " + i + " ");
        }
    }

    /** A number from a to b; now and then an odd one. */
    private int some(int a, int b) {
        return random.nextInt(60) == 0 ? ODD[random.nextInt(ODD.length)] : a + random.nextInt(b - a + 1);
    }

    private int piece() { return some(0, Math.max(0, came - 1)); }
    private int booking() { return some(0, Math.max(0, booked - 1)); }
    private int town() { return some(0, towns - 1); }
    private int night() { return some(100, 100 + nights); }
    private int size() { return some(10, 10 + sizes); }

    private void call(String at) {
        int kind = random.nextInt(100);
        if (kind < 8) {
            comes(at);
        } else if (kind < 18) {
            int[] b = {size(), random.nextInt(4) == 0 ? some(0, 2) : 0, night(), town(), some(0, 12), some(-1, 1)};
            c.due(at + "book", x.book(b[0], b[1], b[2], b[3], b[4], b[5]), m.book(b));
        } else if (kind < 36) {
            gives(at);
        } else if (kind < 50) {
            chains(at);
        } else if (kind < 60) {
            loses(at);
        } else if (kind < 72) {
            goes(at);
        } else if (kind < 78) {
            types(at);
        } else if (kind < 84) {
            sheets(at);
        } else {
            asks(at);
        }
        booked = Math.max(0, m.count(4));
        came = Math.max(0, m.count(0));
    }

    private void comes(String at) {
        int[] p = {makers == 0 ? 0 : some(0, makers), size(), some(0, 2), town(), some(1, 9999), some(1, 6)};
        switch (random.nextInt(8)) {
            case 0: c.due(at + "suit", x.suit(p[0], p[1], p[2], p[3], p[4], p[5]), m.come(2, p[0], p[1], p[2], p[3], p[4], p[5])); break;
            case 1: case 2: c.due(at + "longGown", x.longGown(p[0], p[1], p[2], p[3], p[4], p[5]), m.come(1, p[0], p[1], p[2], p[3], p[4], p[5])); break;
            default: c.due(at + "gown", x.gown(p[0], p[1], p[2], p[3], p[4], p[5]), m.come(0, p[0], p[1], p[2], p[3], p[4], p[5])); break;
        }
    }

    private void gives(String at) {
        int b = booking();
        c.due(at + "give " + b, x.give(b), m.give(b));
        int k = booking();
        c.due(at + "has " + k, x.has(k), m.has(k));
    }

    private void chains(String at) {
        int b = booking();
        for (int tries = 0; tries < 20 && m.chain(b) == -2; tries++) {
            b = booking();
        }
        int length = m.chain(b);
        if (length != -1 && length != -2) chains[Math.max(0, length)]++;
        c.due(at + "chain " + b, x.chain(b), length);
        for (int i = -1; i < 5; i++) {
            c.due(at + "link " + b + " " + i, x.link(b, i, i & 1), m.link(b, i, i & 1));
            c.due(at + "link " + b + " " + i, x.link(b, i, 1 - i & 1), m.link(b, i, 1 - i & 1));
        }
        if (random.nextBoolean()) {
            c.due(at + "swap " + b, x.swap(b), m.swap(b));
            for (int k = 0; k < booked; k++) {
                c.due(at + "has " + k, x.has(k), m.has(k));
            }
        }
    }

    private void loses(String at) {
        int p = piece();
        int b = booking();
        int day = random.nextInt(3) == 0 ? some(0, 14) : night();
        switch (random.nextInt(8)) {
            case 0: c.due(at + "off " + b, x.off(b, day), m.off(b, day)); break;
            case 1: case 2: case 3: c.due(at + "tear " + p, x.tear(p, day), m.tear(p, day)); break;
            case 4: case 5: case 6: c.due(at + "mend " + p, x.mend(p), m.mend(p)); break;
            default:
                if (random.nextInt(3) == 0) c.due(at + "retire " + p, x.retire(p), m.retire(p));
                break;
        }
    }

    private void goes(String at) {
        int b = booking();
        int look = some(0, 4095);
        int day = some(95, 105 + nights);
        switch (random.nextInt(5)) {
            case 0: c.due(at + "out " + b, x.out(b, look), m.out(b, look)); break;
            case 1: case 2: c.due(at + "home " + b, x.home(b, day, look), m.home(b, day, look)); break;
            default:
                for (int what = -1; what <= 5; what++) {
                    c.due(at + "about " + b + " " + what, x.about(b, what), m.about(b, what));
                }
                break;
        }
    }

    private void types(String at) {
        String signs = "hcldestw0123456789;; h1;c1e1 x";
        StringBuilder text = new StringBuilder();
        int clauses = 1 + random.nextInt(random.nextInt(4) == 0 ? 9 : 3);
        for (int k = 0; k < clauses; k++) {
            if (k > 0) text.append(';');
            char letter = "hcldestw".charAt(random.nextInt(8));
            text.append(letter).append("dlst".indexOf(letter) >= 0 ? some(0, 110) : random.nextInt(12) == 0 ? 9 : random.nextInt(4));
        }
        while (random.nextInt(3) == 0) {
            int place = random.nextInt(text.length());
            if (random.nextBoolean()) text.insert(place, ' ');
            else text.setCharAt(place, signs.charAt(random.nextInt(signs.length())));
        }
        for (int k = 0; k < text.length(); k += 8) {
            String part = text.substring(k, Math.min(text.length(), k + 8));
            c.due(at + "type " + part, x.type(Check.packed(part), part.length()), m.type(Check.packed(part), part.length()));
        }
        int n = some(0, 9);
        long w = random.nextLong();
        if (random.nextInt(8) == 0) c.due(at + "type " + w, x.type(w, n), m.type(w, n));
        if (random.nextInt(8) != 0) c.due(at + "terms \"" + text + "\"", x.terms(), m.terms());
        for (char letter : "hcldestwx".toCharArray()) {
            c.due(at + "term " + letter, x.term(letter), m.term(letter));
        }
        int a = town();
        int b = town();
        int days = some(0, 3);
        c.due(at + "post " + a + " " + b, x.post(a, b, days), m.post(a, b, days));
    }

    private void sheets(String at) {
        int s = random.nextInt(2);
        int lane = random.nextInt(2) + 1;
        int[] b = {size(), some(0, 2), night(), town(), some(0, 12), some(-1, 1)};
        int n = some(0, 18);
        int from = some(0, 2);
        if (random.nextInt(4) == 0) c.due(at + "sheet", x.sheet(s, lane, n), m.sheet(s, lane, n));
        for (int k = 0; k < 6; k++) {
            c.due(at + "item", x.item(s, lane, from + k, b[k]), m.item(s, lane, from + k, b[k]));
        }
        int k = random.nextInt(3) == 0 ? some(0, 2) : random.nextInt(2);
        c.due(at + "books", x.books(s, lane, from, k), m.books(s, lane, from, k));
        int d = some(0, 3);
        if (random.nextInt(9) == 0) c.due(at + "drop", x.drop(d), m.drop(d));
    }

    private void asks(String at) {
        int p = piece();
        int b = booking();
        int k = some(-1, 9);
        int night = night();
        int size = size();
        switch (random.nextInt(10)) {
            case 0: c.due(at + "free " + p + " " + b, x.free(p, b), m.free(p, b)); break;
            case 1: c.due(at + "away " + p + " " + b, x.away(p, b, k & 1), m.away(p, b, k & 1)); break;
            case 2: case 3:
                for (int what = -1; what <= 3; what++) {
                    c.due(at + "match " + k % 2 + " " + what, x.match(k % 2, what), m.match(k % 2, what));
                }
                break;
            case 4: c.due(at + "asOf", x.asOf(k, k & 1, 100, night), m.asOf(k, k & 1, 100, night)); break;
            case 5: c.due(at + "told " + p + " " + k, x.told(p, k), m.told(p, k)); break;
            case 6: c.due(at + "hem " + p, x.hem(p, k), m.hem(p, k)); break;
            case 7:
                for (int what = -1; what <= 8; what++) {
                    c.due(at + "count " + what, x.count(what), m.count(what));
                }
                break;
            case 8:
                for (int piece = 0; piece < came; piece++) {
                    c.due(at + "fits " + piece + " " + size, x.fits(piece, size, k % 3), m.fits(piece, size, k % 3));
                }
                break;
            default: doubles(at); break;
        }
    }

    private void doubles(String at) {
        if (makers == 0 || random.nextInt(2) == 0) return;
        int a = some(0, 5);
        int b = some(0, 5);
        int label = some(8, 12);
        int other = label + some(-2, 2);
        c.due(at + "same " + a + " " + b, x.same(a, label, b, other), m.same(a, label, b, other));
        for (int maker = -1; maker <= 6; maker++) {
            c.due(at + "low " + maker, x.lie(maker, 0), m.lie(maker, 0));
            c.due(at + "high " + maker, x.lie(maker, 1), m.lie(maker, 1));
        }
        c.due(at + "quarrel", x.quarrel(), m.quarrel());
    }
}
