/** Promises 15 to 27: book, off, give, has, free, away, tear, mend, chain, link, swap, match, asOf. */
final class BookingsTest {
    public static void main(String[] args) {
        Check c = new Check();
        book(c);
        off(c);
        give(c);
        freeAndAway(c);
        termsAsTheyAre(c);
        tear(c);
        chainOfOne(c);
        chainOfTwo(c);
        chainOrder(c);
        chainLimits(c);
        chainHinders(c);
        chainPieceTwice(c);
        match(c);
        matchOthers(c);
        asOf(c);
        c.end();
    }

    private static void book(Check c) {
        GownLet x = new GownLet();
        int[][] wrong = {
            {0, 0, 100, 0, 0, -1}, {41, 0, 100, 0, 0, -1}, {10, -1, 100, 0, 0, -1}, {10, 3, 100, 0, 0, -1},
            {10, 0, 19, 0, 0, -1}, {10, 0, 381, 0, 0, -1}, {10, 0, 100, -1, 0, -1}, {10, 0, 100, 9, 0, -1},
            {10, 0, 100, 0, -1, -1}, {10, 0, 100, 0, 400, -1}, {10, 0, 100, 0, 0, -2}, {10, 0, 100, 0, 0, 5},
        };
        for (int[] w : wrong) {
            c.due("wrong booking", x.book(w[0], w[1], w[2], w[3], w[4], w[5]), GownLet.BAD);
        }
        c.due("none came", x.count(4), 0);
        c.due("least", x.book(1, 0, 20, 0, 0, -1), 0);
        c.due("most", x.book(40, 2, 380, 8, 399, 4), 1);
        for (int i = 2; i < 30; i++) {
            c.due("number", x.book(10, 1, 100, 0, 0, 0), i);
        }
        c.due("a 31st", x.book(10, 0, 100, 0, 0, -1), GownLet.FULL);
        c.due("BAD ahead of FULL", x.book(10, 3, 100, 0, 0, -1), GownLet.BAD);
        c.due("30 bookings", x.count(4), 30);
        c.due("none has a piece", x.count(6), 0);
    }

    private static void off(Check c) {
        GownLet x = new GownLet();
        x.gown(0, 10, 0, 0, 100, 9);
        x.book(10, 0, 100, 0, 7, -1);
        x.book(10, 0, 200, 0, 7, -1);
        x.book(10, 0, 300, 0, 7, -1);
        c.due("booking -1", x.off(-1, 9), GownLet.BAD);
        c.due("booking 3", x.off(3, 9), GownLet.BAD);
        c.due("ahead of when it was made", x.off(0, 6), GownLet.BAD);
        c.due("day 400", x.off(0, 400), GownLet.BAD);
        c.due("day -1", x.off(0, -1), GownLet.BAD);
        c.due("given", x.give(0), 0);
        c.due("on the day it was made", x.off(0, 7), 1);
        c.due("it has none any more", x.has(0), GownLet.NONE);
        c.due("again", x.off(0, 8), GownLet.NOT);
        c.due("BAD ahead of NOT", x.off(0, 6), GownLet.BAD);
        c.due("none is given it", x.give(0), GownLet.NOT);
        c.due("nor by a chain", x.chain(0), GownLet.NOT);
        c.due("out", x.give(1), 0);
        x.out(1, 0);
        c.due("its piece is out", x.off(1, 9), GownLet.NOT);
        x.home(1, 200, 0);
        c.due("its piece was out", x.off(1, 9), GownLet.NOT);
        c.due("it has it still", x.has(1), 0);
        c.due("day 399", x.off(2, 399), 1);
        c.due("two are called off", x.count(5), 2);
    }

    private static void give(Check c) {
        GownLet x = new GownLet();
        x.gown(0, 11, 0, 0, 100, 9);
        x.gown(0, 10, 0, 1, 100, 9);
        x.gown(0, 10, 0, 0, 100, 9);
        x.gown(0, 10, 0, 0, 100, 9);
        x.gown(0, 9, 0, 0, 100, 9);
        x.suit(0, 10, 0, 0, 100, 9);
        for (int i = 0; i < 6; i++) {
            x.book(10, 0, 100, 0, 0, -1);
        }
        c.due("booking -1", x.give(-1), GownLet.BAD);
        c.due("booking 6", x.give(6), GownLet.BAD);
        c.due("has -1", x.has(-1), GownLet.BAD);
        c.due("has 6", x.has(6), GownLet.BAD);
        c.due("none at first", x.has(0), GownLet.NONE);
        int[] due = {2, 3, 1, 0, 4, GownLet.NONE};
        for (int i = 0; i < 6; i++) {
            c.due("given " + i, x.give(i), due[i]);
            c.due("has " + i, x.has(i), due[i]);
        }
        c.due("it has one", x.give(0), GownLet.NOT);
        c.due("five have one", x.count(6), 5);
        GownLet y = new GownLet();
        y.gown(1, 10, 0, 0, 100, 9);
        y.book(10, 0, 100, 0, 0, -1);
        Check.terms(y, "e8");
        c.due("it may fit, but not surely", y.fits(0, 10, 0), 1);
        c.due("so it is not given", y.give(0), GownLet.NONE);
        Check.terms(y, "e9");
        c.due("now it is", y.give(0), 0);
        GownLet z = new GownLet();
        z.same(0, 10, 1, 12);
        z.gown(1, 11, 0, 0, 100, 9);
        z.longGown(0, 8, 0, 0, 100, 9);
        z.hem(1, 2);
        z.gown(1, 13, 0, 0, 100, 9);
        z.book(10, 0, 100, 0, 0, -1);
        Check.terms(z, "e3");
        c.due("off by LOW is 2, 0, 0", z.give(0), 1);
        z.book(10, 0, 100, 0, 0, -1);
        c.due("LOW, not HIGH", z.give(1), 2);
    }

    private static void freeAndAway(Check c) {
        GownLet x = new GownLet();
        x.gown(0, 10, 0, 1, 100, 9);
        x.suit(0, 30, 0, 0, 100, 9);
        int[] nights = {100, 106, 107, 94, 93, 100};
        for (int night : nights) {
            x.book(10, 0, night, 0, 0, -1);
        }
        c.due("piece 2", x.free(2, 0), GownLet.BAD);
        c.due("piece -1", x.free(-1, 0), GownLet.BAD);
        c.due("booking 6", x.free(0, 6), GownLet.BAD);
        c.due("booking -1", x.free(0, -1), GownLet.BAD);
        c.due("away piece 2", x.away(2, 0, 0), GownLet.BAD);
        c.due("away booking 6", x.away(0, 6, 0), GownLet.BAD);
        c.due("which -1", x.away(0, 0, -1), GownLet.BAD);
        c.due("which 2", x.away(0, 0, 2), GownLet.BAD);
        c.due("given", x.give(0), 0);
        c.due("first", x.away(0, 0, 0), 98);
        c.due("last", x.away(0, 0, 1), 103);
        c.due("not looking at what it has itself", x.free(0, 0), 1);
        c.due("104 is behind 103", x.free(0, 1), 1);
        c.due("105 is", x.free(0, 2), 1);
        c.due("97 is ahead", x.free(0, 3), 1);
        c.due("96 is", x.free(0, 4), 1);
        c.due("the same days", x.free(0, 5), 0);
        x.book(10, 0, 105, 0, 0, -1);
        x.book(10, 0, 95, 0, 0, -1);
        c.due("103 is away twice", x.free(0, 6), 0);
        c.due("98 is away twice", x.free(0, 7), 0);
        c.due("no matter what fits", x.free(1, 5), 1);
        x.tear(0, 107);
        c.due("torn behind the night", x.free(0, 1), 1);
        c.due("torn from the night on", x.free(0, 2), 0);
        x.mend(0);
        c.due("mended", x.free(0, 2), 1);
        x.retire(0);
        c.due("retired", x.free(0, 1), 0);
        GownLet y = new GownLet();
        y.gown(0, 10, 0, 0, 100, 9);
        y.book(10, 0, 20, 8, 0, -1);
        y.book(10, 0, 380, 8, 0, -1);
        y.post(0, 8, 9);
        Check.terms(y, "h9;c9");
        c.due("day 2", y.away(0, 0, 0), 2);
        c.due("day 398", y.away(0, 1, 1), 398);
    }

    private static void termsAsTheyAre(Check c) {
        GownLet x = new GownLet();
        x.gown(0, 10, 0, 0, 100, 9);
        x.book(10, 0, 100, 0, 0, -1);
        x.book(10, 0, 104, 0, 0, -1);
        x.give(0);
        c.due("104 is free", x.free(0, 1), 1);
        Check.terms(x, "c3");
        c.due("as terms are now", x.free(0, 1), 0);
        c.due("last", x.away(0, 0, 1), 103);
        Check.terms(x, "h0");
        c.due("less hold", x.free(0, 1), 1);
        c.due("first", x.away(0, 0, 0), 100);
    }

    private static void tear(Check c) {
        GownLet x = new GownLet();
        x.gown(0, 10, 0, 0, 100, 9);
        x.gown(0, 10, 0, 0, 100, 9);
        int[] nights = {50, 100, 150, 200, 250};
        for (int i = 0; i < 5; i++) {
            x.book(10, 0, nights[i], 0, 0, -1);
            c.due("given", x.give(i), 0);
        }
        x.out(3, 0);
        c.due("piece 2", x.tear(2, 0), GownLet.BAD);
        c.due("piece -1", x.tear(-1, 0), GownLet.BAD);
        c.due("day -1", x.tear(0, -1), GownLet.BAD);
        c.due("day 400", x.tear(0, 400), GownLet.BAD);
        c.due("mend what is whole", x.mend(0), GownLet.NOT);
        c.due("mend piece 2", x.mend(2), GownLet.BAD);
        c.due("mend piece -1", x.mend(-1), GownLet.BAD);
        c.due("torn from 150: 150 and 250, not 200 that is out", x.tear(0, 150), 2);
        c.due("150 has none", x.has(2), GownLet.NONE);
        c.due("200 has it", x.has(3), 0);
        c.due("250 has none", x.has(4), GownLet.NONE);
        c.due("100 has it", x.has(1), 0);
        c.due("again", x.tear(0, 150), GownLet.NOT);
        c.due("from later on", x.tear(0, 151), GownLet.NOT);
        c.due("from when", x.told(0, 9), 150);
        c.due("from ahead on", x.tear(0, 100), 1);
        c.due("from when now", x.told(0, 9), 100);
        c.due("one is torn", x.count(2), 1);
        c.due("given the other", x.give(1), 1);
        c.due("mended", x.mend(0), 1);
        c.due("none is torn", x.count(2), 0);
        c.due("mended again", x.mend(0), GownLet.NOT);
        x.home(3, 200, 0);
        c.due("200 was out, 50 has it", x.tear(0, 0), 1);
        c.due("200 has it still", x.has(3), 0);
        c.due("torn from 399", x.tear(1, 399), 0);
    }

    private static void links(Check c, GownLet x, int booking, int[] due) {
        c.due("chain " + booking, x.chain(booking), due.length / 2);
        for (int i = 0; i < due.length / 2; i++) {
            c.due("booking at " + i, x.link(booking, i, 0), due[2 * i]);
            c.due("piece at " + i, x.link(booking, i, 1), due[2 * i + 1]);
        }
        for (int what = 0; what <= 1; what++) {
            c.due("behind the chain", x.link(booking, due.length / 2, what), GownLet.BAD);
            c.due("far behind the chain", x.link(booking, Integer.MAX_VALUE, what), GownLet.BAD);
        }
    }

    private static void chainOfOne(Check c) {
        GownLet x = new GownLet();
        x.gown(0, 11, 0, 0, 100, 9);
        x.gown(0, 10, 0, 0, 100, 9);
        x.book(10, 0, 100, 0, 0, -1);
        c.due("chain -1", x.chain(-1), GownLet.BAD);
        c.due("chain 1", x.chain(1), GownLet.BAD);
        c.due("swap 1", x.swap(1), GownLet.BAD);
        c.due("link 1", x.link(1, 0, 0), GownLet.BAD);
        c.due("link i -1", x.link(0, -1, 0), GownLet.BAD);
        c.due("link what -1", x.link(0, 0, -1), GownLet.BAD);
        c.due("link what 2", x.link(0, 0, 2), GownLet.BAD);
        links(c, x, 0, new int[] {0, 0});
        c.due("nothing is given by chain", x.has(0), GownLet.NONE);
        c.due("the least piece, not the nearest", x.swap(0), 1);
        c.due("it has it", x.has(0), 0);
        c.due("chain with a piece", x.chain(0), GownLet.NOT);
        c.due("swap with a piece", x.swap(0), GownLet.NOT);
        c.due("link with a piece", x.link(0, 0, 0), GownLet.NOT);
        c.due("link far with a piece", x.link(0, Integer.MAX_VALUE, 1), GownLet.NOT);
        c.due("link BAD ahead of NOT", x.link(0, 0, 2), GownLet.BAD);
    }

    /** Body 9 wears 9 or 10 (ease 1), body 11 wears 10 or 12: the first one has 10. */
    private static void chainOfTwo(Check c) {
        GownLet x = new GownLet();
        x.gown(0, 10, 0, 0, 100, 9);
        x.gown(0, 8, 0, 0, 100, 9);
        x.book(9, 0, 100, 0, 0, -1);
        x.book(11, 0, 101, 0, 0, -1);
        c.due("given 10", x.give(0), 0);
        c.due("none for 11", x.give(1), GownLet.NONE);
        links(c, x, 1, new int[] {1, 0, 0, 1});
        c.due("done", x.swap(1), 2);
        c.due("11 has it", x.has(1), 0);
        c.due("9 has 8", x.has(0), 1);
        c.due("two have one", x.count(6), 2);
        x.book(11, 0, 101, 0, 0, -1);
        c.due("no chain", x.chain(2), GownLet.NONE);
        c.due("no swap", x.swap(2), GownLet.NONE);
        c.due("no link", x.link(2, 0, 0), GownLet.NONE);
        c.due("no link at any place", x.link(2, 1, 1), GownLet.NONE);
        c.due("no link at a place no chain has", x.link(2, 4, 0), GownLet.NONE);
        c.due("nor far", x.link(2, Integer.MAX_VALUE, 0), GownLet.NONE);
        c.due("BAD ahead of NONE", x.link(2, -1, 0), GownLet.BAD);
    }

    /** Two ways of one length: by the least PIECE of the first, not by its BOOKING. */
    private static void chainOrder(Check c) {
        GownLet x = new GownLet();
        x.gown(0, 12, 0, 0, 100, 9);
        x.gown(0, 12, 0, 0, 100, 9);
        x.gown(0, 14, 0, 0, 100, 9);
        x.gown(0, 14, 0, 0, 100, 9);
        x.book(13, 0, 100, 0, 0, -1);
        x.book(13, 0, 100, 0, 0, -1);
        x.book(11, 0, 100, 0, 0, -1);
        x.tear(0, 0);
        c.due("the first has 1", x.give(0), 1);
        x.mend(0);
        c.due("the second has 0", x.give(1), 0);
        links(c, x, 2, new int[] {2, 0, 1, 2});
        c.due("done", x.swap(2), 2);
        c.due("the first keeps 1", x.has(0), 1);
        c.due("the second has 2", x.has(1), 2);
    }

    /** Labels 10, 12, 14, 16, each worn by the body above it; only 18 is left: three swaps. */
    private static GownLet row(int swaps) {
        GownLet x = new GownLet();
        for (int label = 10; label <= 18; label += 2) {
            x.gown(0, label, 0, 0, 100, 9);
        }
        Check.terms(x, "e1;w" + swaps);
        for (int size = 11; size <= 15; size += 2) {
            x.book(size, 0, 100, 0, 0, -1);
            x.give(x.count(4) - 1);
        }
        x.tear(4, 0);
        x.book(9, 0, 100, 0, 0, -1);
        return x;
    }

    private static void chainLimits(Check c) {
        GownLet x = row(3);
        links(c, x, 3, new int[] {3, 0, 0, 1, 1, 2, 2, 3});
        c.due("done", x.swap(3), 4);
        int[] due = {1, 2, 3, 0};
        for (int i = 0; i < 4; i++) {
            c.due("has " + i, x.has(i), due[i]);
        }
        c.due("two swaps do not do", row(2).chain(3), GownLet.NONE);
        c.due("no swap does not do", row(0).chain(3), GownLet.NONE);
        GownLet y = new GownLet();
        for (int label = 10; label <= 18; label += 2) {
            y.gown(0, label, 0, 0, 100, 9);
        }
        for (int size = 11; size <= 17; size += 2) {
            y.book(size, 0, 100, 0, 0, -1);
            y.give(y.count(4) - 1);
        }
        y.book(9, 0, 100, 0, 0, -1);
        c.due("four swaps are too many", y.chain(4), GownLet.NONE);
        Check.terms(y, "w0");
        c.due("no swaps", y.chain(3), GownLet.NOT);
        y.book(17, 0, 100, 0, 0, -1);
        links(c, y, 5, new int[] {5, 4});
    }

    private static GownLet two() {
        GownLet x = new GownLet();
        x.gown(0, 10, 0, 0, 100, 1);
        x.gown(0, 8, 0, 0, 100, 9);
        x.book(9, 0, 100, 0, 0, -1);
        x.book(11, 0, 101, 0, 0, -1);
        x.book(11, 0, 104, 0, 0, -1);
        x.give(0);
        return x;
    }

    private static void chainHinders(Check c) {
        c.due("as it is", two().chain(1), 2);
        GownLet x = two();
        x.out(0, 0);
        c.due("it is out", x.chain(1), GownLet.NONE);
        GownLet y = two();
        y.out(0, 0);
        y.home(0, 100, 0);
        c.due("it was out, and is worn", y.chain(1), GownLet.NONE);
        GownLet z = two();
        z.retire(0);
        c.due("it is retired", z.chain(1), GownLet.NONE);
        GownLet v = two();
        c.due("torn behind the one, not the other", v.tear(0, 101), 0);
        c.due("torn for the taker", v.chain(1), GownLet.NONE);
        GownLet w = two();
        c.due("given behind", w.give(2), 0);
        c.due("away for two", w.chain(1), GownLet.NONE);
        Check.terms(w, "h0;c1");
        c.due("away for one by other terms", w.chain(1), 2);
        GownLet u = two();
        u.tear(1, 100);
        c.due("the free one is torn", u.chain(1), GownLet.NONE);
        GownLet t = two();
        t.retire(1);
        c.due("the free one is retired", t.chain(1), GownLet.NONE);
        GownLet s = two();
        s.off(1, 5);
        c.due("it is called off", s.chain(1), GownLet.NOT);
        c.due("swap of one called off", s.swap(1), GownLet.NOT);
        c.due("link of one called off", s.link(1, 0, 0), GownLet.NOT);
        c.due("link far of one called off", s.link(1, 4, 0), GownLet.NOT);
        c.due("link i -1 of one called off", s.link(1, -1, 0), GownLet.BAD);
    }

    /** The taker's PIECE would be FREE for the one behind the next, but it stands in the CHAIN. */
    private static void chainPieceTwice(Check c) {
        GownLet x = new GownLet();
        x.gown(0, 10, 0, 0, 100, 9);
        x.gown(0, 11, 0, 1, 100, 9);
        x.book(10, 0, 100, 0, 0, -1);
        x.book(11, 0, 104, 0, 0, -1);
        x.book(9, 0, 97, 0, 0, -1);
        c.due("10 has 0", x.give(0), 0);
        c.due("11 has 1", x.give(1), 1);
        c.due("none for 9", x.give(2), GownLet.NONE);
        c.due("0 would be free for 11", x.free(0, 1), 1);
        c.due("1 would not be free for 10", x.free(1, 0), 0);
        c.due("9 takes 0, 10 takes 1, so 11 can't take 0", x.chain(2), GownLet.NONE);
        x.gown(0, 12, 0, 0, 100, 9);
        links(c, x, 2, new int[] {2, 0, 0, 1, 1, 2});
    }

    private static void match(Check c) {
        GownLet x = new GownLet();
        c.due("party -1", x.match(-1, 0), GownLet.BAD);
        c.due("party 5", x.match(5, 0), GownLet.BAD);
        c.due("what -1", x.match(0, -1), GownLet.BAD);
        c.due("what 3", x.match(0, 3), GownLet.BAD);
        c.due("no bookings", x.match(0, 0), GownLet.NONE);
        x.book(10, 0, 100, 0, 0, 0);
        x.book(10, 0, 100, 0, 0, 0);
        x.book(10, 0, 100, 0, 0, 1);
        c.due("no piece, lot 0", x.match(0, 0), 0);
        c.due("no piece, none", x.match(0, 1), 0);
        c.due("no piece, two", x.match(0, 2), 2);
        x.gown(0, 10, 9, 0, 100, 9);
        c.due("one in lot 9", x.match(0, 0), 9);
        c.due("one", x.match(0, 1), 1);
        x.gown(0, 10, 5, 0, 100, 9);
        c.due("the least lot", x.match(0, 0), 5);
        x.gown(0, 10, 9, 0, 100, 9);
        c.due("most", x.match(0, 0), 9);
        c.due("two", x.match(0, 1), 2);
        c.due("nothing is given by it", x.count(6), 0);
        c.due("nothing at all", x.has(0), GownLet.NONE);
        c.due("given by number", x.give(2), 0);
        c.due("one taken by another party", x.match(0, 1), 1);
        c.due("the least lot again", x.match(0, 0), 5);
        x.off(1, 3);
        c.due("one is called off", x.match(0, 2), 1);
        x.off(0, 3);
        c.due("all are called off", x.match(0, 2), GownLet.NONE);
        c.due("no party is none", x.match(-1, 2), GownLet.BAD);
    }

    /** One that HAS one of another LOT does not count; those ahead take theirs by OFF, POST and number. */
    private static void matchOthers(Check c) {
        GownLet x = new GownLet();
        x.gown(0, 10, 3, 0, 100, 9);
        x.gown(0, 11, 3, 0, 100, 9);
        x.gown(0, 12, 4, 0, 100, 9);
        x.book(11, 0, 100, 0, 0, 2);
        x.book(12, 0, 100, 0, 0, 2);
        x.book(10, 0, 100, 0, 0, 2);
        c.due("the first takes 11, so the second goes without", x.match(2, 1), 2);
        c.due("lot 3", x.match(2, 0), 3);
        x.tear(1, 0);
        x.tear(0, 0);
        c.due("lot 4 has one", x.match(2, 1), 1);
        c.due("given of lot 4", x.give(1), 2);
        c.due("it has it", x.match(2, 0), 4);
        x.mend(0);
        x.mend(1);
        c.due("two of three: 12 has one of lot 4", x.match(2, 1), 2);
        c.due("lot 3 again", x.match(2, 0), 3);
        c.due("three there are", x.match(2, 2), 3);
        c.due("it has lot 4 still", x.has(1), 2);
        x.retire(2);
        c.due("a retired one that it has counts", x.match(2, 1), 2);
        x.retire(0);
        x.retire(1);
        c.due("and so", x.match(2, 0), 4);
        c.due("one", x.match(2, 1), 1);
    }

    private static void asOf(Check c) {
        GownLet x = new GownLet();
        x.book(10, 0, 100, 0, 10, -1);
        x.book(10, 0, 110, 0, 20, -1);
        x.book(10, 0, 380, 0, 30, -1);
        x.book(10, 0, 20, 0, 399, -1);
        x.off(1, 25);
        int[] days = {0, 9, 10, 19, 20, 24, 25, 29, 30, 398, 399};
        int[] due = {0, 0, 1, 1, 2, 2, 1, 1, 2, 2, 3};
        for (int i = 0; i < days.length; i++) {
            c.due("as of " + days[i], x.asOf(days[i], 0, 9, -9), due[i]);
            c.due("all nights as of " + days[i], x.asOf(days[i], 1, 20, 380), due[i]);
        }
        c.due("100 .. 110 on 24", x.asOf(24, 1, 100, 110), 2);
        c.due("101 .. 110 on 24", x.asOf(24, 1, 101, 110), 1);
        c.due("100 .. 109 on 24", x.asOf(24, 1, 100, 109), 1);
        c.due("101 .. 109 on 24", x.asOf(24, 1, 101, 109), 0);
        c.due("110 .. 100 on 24", x.asOf(24, 1, 110, 100), 0);
        c.due("all numbers", x.asOf(399, 1, Integer.MIN_VALUE, Integer.MAX_VALUE), 3);
        c.due("day -1", x.asOf(-1, 0, 0, 0), GownLet.BAD);
        c.due("day 400", x.asOf(400, 1, 0, 0), GownLet.BAD);
        c.due("what -1", x.asOf(0, -1, 0, 0), GownLet.BAD);
        c.due("what 2", x.asOf(0, 2, 0, 0), GownLet.BAD);
        x.off(0, 10);
        c.due("made and called off on one day", x.asOf(10, 0, 0, 0), 0);
    }
}
