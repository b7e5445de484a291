/** Part 3 (chains and matches) and promises 23 to 27, sentence by sentence; run by BookingsEdgesTest. */
final class ChainEdges {
    private static final int BAD = GownLet.BAD, NOT = GownLet.NOT, NONE = GownLet.NONE;
    private static final int MIN = Integer.MIN_VALUE, MAX = Integer.MAX_VALUE;
    private static final int[][] BOOKING = {{0, Scenes.BOOKINGS - 1}};

    private ChainEdges() {
    }

    static void part(Check c, Section s) {
        rows(c, s);
        hindered(c, s);
        order(c, s);
        matches(c, s);
    }

    static void promises(Check c) {
        chain(c);
        link(c);
        swap(c);
        match(c);
        asOf(c);
    }

    /**
     * LABELS 10, 12 and so on, the last one FREE; each of the others is had by a body that the next would fit, too.
     * The last BOOKING, of SIZE 9, can have the first alone.
     */
    private static GownLet row(int holders) {
        GownLet x = new GownLet();
        for (int i = 0; i <= holders; i++) {
            x.gown(0, 10 + 2 * i, 0, 0, 100, 9);
        }
        for (int i = 0; i < holders; i++) {
            x.book(11 + 2 * i, 0, 100, 0, 0, -1);
            x.give(i);
        }
        x.book(9, 0, 101, 0, 0, -1);
        return x;
    }

    /** The CHAIN is so: BOOKING, PIECE, BOOKING, PIECE ..; it is done, too. */
    private static void links(Check c, String what, GownLet x, int... due) {
        int length = due.length / 2;
        c.due(what, x.chain(due[0]), length);
        for (int i = 0; i < length; i++) {
            c.due(what + ", booking at " + i, x.link(due[0], i, 0), due[2 * i]);
            c.due(what + ", piece at " + i, x.link(due[0], i, 1), due[2 * i + 1]);
        }
        c.due(what + ", behind", x.link(due[0], length, 0), BAD);
        c.due(what + ", nothing done yet", x.has(due[0]), NONE);
        c.due(what + ", done", x.swap(due[0]), length);
        for (int i = 0; i < length; i++) {
            c.due(what + ", has at " + i, x.has(due[2 * i]), due[2 * i + 1]);
        }
    }

    private static void none(Check c, String what, GownLet x, int booking) {
        c.due(what, x.chain(booking), NONE);
        c.due(what + ", link", x.link(booking, 0, 0), NONE);
        c.due(what + ", swap", x.swap(booking), NONE);
        c.due(what + ", has", x.has(booking), NONE);
    }

    private static void rows(Check c, Section s) {
        c.says(s, "For one without a PIECE a CHAIN: a row of BOOKINGS (that one first)");
        links(c, "one", row(0), 0, 0);
        links(c, "two", row(1), 1, 0, 0, 1);
        links(c, "three", row(2), 2, 0, 0, 1, 1, 2);
        links(c, "four", row(3), 3, 0, 0, 1, 1, 2, 2, 3);
        c.says(s, "each but the last taking a PIECE that FITS it from the next one");
        GownLet x = row(1);
        x.book(8, 0, 101, 0, 0, -1);
        none(c, "10 does not fit 8", x, 2);
        GownLet y = row(1);
        y.book(9, 1, 101, 0, 0, -1);
        none(c, "a GOWN is not wanted", y, 2);
        GownLet z = lied(13, 11);
        Check.terms(z, "e2");
        z.book(9, 0, 101, 0, 0, -1);
        c.due("the 9 .. 11 is had", z.give(0), 0);
        links(c, "it FITS 9 surely by EASE 2", z, 1, 0, 0, 1);
        GownLet may = lied(11, 10);
        c.due("the 9 .. 11 is had", may.give(0), 0);
        may.book(9, 0, 101, 0, 0, -1);
        c.due("by EASE 1 it MAY", may.fits(0, 9, 0), 1);
        none(c, "so not", may, 1);
        c.says(s, "the last one a PIECE that is FREE and FITS");
        GownLet v = row(1);
        v.book(13, 0, 102, 0, 0, -1);
        c.due("12 is given", v.give(2), 1);
        none(c, "so it is not FREE", v, 1);
        GownLet w = row(1);
        Check.terms(w, "e0");
        none(c, "nothing FITS", w, 1);
    }

    /** A gown of 9 .. 11, as its MAKER lies, one of another LABEL, and a body. */
    private static GownLet lied(int label, int size) {
        GownLet x = new GownLet();
        x.same(0, 10, 1, 12);
        x.gown(1, 12, 0, 0, 100, 9);
        x.gown(0, label, 0, 0, 100, 9);
        x.book(size, 0, 100, 0, 0, -1);
        return x;
    }

    private static void hindered(Check c, Section s) {
        c.says(s, ": a PIECE is taken from the next one, if it is not RETIRED");
        GownLet x = row(1);
        x.retire(0);
        none(c, "the next one's", x, 1);
        GownLet last = row(1);
        last.retire(1);
        none(c, "the FREE one", last, 1);
        c.says(s, "not TORN (as for FREE)");
        for (int day = 100; day <= 103; day++) {
            GownLet y = row(1);
            c.due("torn from " + day, y.tear(0, day), day == 100 ? 1 : 0);
            c.due("chain", y.chain(1), day <= 101 ? NONE : 2);
            GownLet z = row(1);
            z.tear(1, day);
            c.due("the FREE one torn from " + day, z.chain(1), day <= 100 ? NONE : 2);
        }
        away(c, s);
        c.says(s, "and is not, was not OUT for it");
        GownLet out = row(1);
        out.out(0, 0);
        none(c, "is OUT", out, 1);
        out.home(0, 100, 0);
        none(c, "was OUT", out, 1);
        GownLet other = row(1);
        other.book(11, 0, 300, 0, 0, -1);
        other.tear(1, 300);
        c.due("the same one later", other.give(2), 0);
        other.mend(1);
        other.out(2, 0);
        links(c, "is OUT for another", other, 1, 0, 0, 1);
    }

    private static void away(Check c, Section s) {
        c.says(s, "is AWAY for just that one BOOKING (that HAS it) on days for which it would be AWAY for the taker");
        for (int night = 90; night <= 115; night++) {
            GownLet x = new GownLet();
            x.gown(0, 10, 0, 0, 100, 9);
            x.gown(0, 12, 0, 0, 100, 9);
            x.book(11, 0, 100, 0, 0, -1);
            x.give(0);
            x.book(9, 0, night, 0, 0, -1);
            boolean isInTheWay = Math.abs(night - 100) <= 3;
            c.due("night " + night, x.chain(1), isInTheWay ? 2 : 1);
            x.book(11, 0, 105, 0, 0, -1);
            c.due("had again by night 105", x.give(2), 0);
            boolean isTwice = isInTheWay && Math.abs(night - 105) <= 3;
            isInTheWay |= Math.abs(night - 105) <= 3;
            c.due("night " + night + " between 100 and 105", x.chain(1), isTwice ? NONE : isInTheWay ? 2 : 1);
        }
        GownLet y = row(1);
        y.book(11, 0, 105, 0, 0, -1);
        y.tear(1, 105);
        c.due("AWAY for two", y.give(2), 0);
        y.mend(1);
        y.book(9, 0, 102, 0, 0, -1);
        none(c, "99 .. 102 and 104 .. 107, so 101 .. 104 is on both", y, 3);
        Check.terms(y, "c1");
        links(c, "99 .. 101 and 104 .. 106, so 101 .. 103 is on one", y, 3, 0, 0, 1);
    }

    private static void order(Check c, Section s) {
        c.says(s, "The shortest");
        GownLet x = new GownLet();
        for (int label : new int[] {10, 12, 14, 8, 6}) {
            x.gown(0, label, 0, 0, 100, 9);
        }
        for (int size : new int[] {11, 13, 7}) {
            x.book(size, 0, 100, 0, 0, -1);
            x.give(x.count(4) - 1);
        }
        x.book(9, 0, 100, 0, 0, -1);
        links(c, "two by PIECE 3, not three by PIECE 0", x, 3, 3, 2, 4);
        GownLet y = row(1);
        y.gown(0, 8, 0, 0, 100, 9);
        links(c, "one by PIECE 2, not two by PIECE 0", y, 1, 2);
        c.says(s, "(SWAPS at most are taken so)");
        for (int swaps = 0; swaps <= 3; swaps++) {
            for (int holders = 0; holders <= 4; holders++) {
                GownLet z = row(holders);
                Check.terms(z, "w" + swaps);
                c.due(swaps + " SWAPS at most, " + holders + " needed", z.chain(holders), holders <= swaps ? holders + 1 : NONE);
            }
        }
        c.says(s, "of like ones the first by BOOKINGS, PIECES: the PIECE the first one takes (the least)");
        GownLet v = new GownLet();
        for (int label : new int[] {10, 10, 12, 12}) {
            v.gown(0, label, 0, 0, 100, 9);
        }
        v.book(11, 0, 100, 0, 0, -1);
        v.book(11, 0, 100, 0, 0, -1);
        v.tear(0, 0);
        c.due("the first BOOKING has 1", v.give(0), 1);
        v.mend(0);
        c.due("the second has 0", v.give(1), 0);
        v.book(9, 0, 100, 0, 0, -1);
        links(c, "the least PIECE, not the first BOOKING", v, 2, 0, 1, 2);
        GownLet one = new GownLet();
        one.gown(0, 9, 0, 1, 100, 9);
        one.gown(0, 10, 0, 0, 100, 9);
        one.book(10, 0, 100, 0, 0, -1);
        links(c, "the least PIECE, neither least OFF nor least POST", one, 0, 0);
        thenThatOfTheNext(c, s);
        c.says(s, "No BOOKING, no PIECE comes twice in a CHAIN");
        twice(c);
    }

    /** BOOKINGS 0, 1, 2 have PIECES 0, 1, 2; 0 could take those of 1 and 2; these could take 3, 4 and 4. */
    private static void thenThatOfTheNext(Check c, Section s) {
        c.says(s, "then that of the next, and so on");
        GownLet x = new GownLet();
        for (int label : new int[] {10, 12, 12, 14, 14}) {
            x.gown(0, label, 0, 0, 100, 9);
        }
        for (int size : new int[] {11, 13, 13}) {
            x.book(size, 0, 100, 0, 0, -1);
            x.give(x.count(4) - 1);
        }
        x.book(9, 0, 100, 0, 0, -1);
        x.tear(3, 0);
        c.due("by 4", x.link(3, 2, 1), 4);
        x.mend(3);
        links(c, "by the least each", x, 3, 0, 0, 1, 1, 3);
        GownLet y = new GownLet();
        for (int label : new int[] {10, 12, 11}) {
            y.gown(0, label, 0, 0, 100, 9);
        }
        y.book(11, 0, 100, 0, 0, -1);
        y.tear(2, 0);
        y.give(0);
        y.mend(2);
        y.book(9, 0, 100, 0, 0, -1);
        links(c, "the next takes the least, not the nearest", y, 1, 0, 0, 1);
    }

    private static void twice(Check c) {
        GownLet x = new GownLet();
        x.gown(0, 10, 0, 0, 100, 9);
        x.gown(0, 12, 0, 0, 100, 9);
        x.book(11, 0, 100, 0, 0, -1);
        x.book(11, 0, 100, 0, 0, -1);
        x.give(0);
        x.give(1);
        x.book(9, 0, 100, 0, 0, -1);
        none(c, "9 takes 0, 11 takes 1, the other 11 can't take 0 again", x, 2);
        GownLet y = new GownLet();
        y.gown(0, 10, 0, 0, 100, 9);
        y.gown(0, 11, 0, 1, 100, 9);
        y.book(10, 0, 100, 0, 0, -1);
        y.book(11, 0, 104, 0, 0, -1);
        y.book(9, 0, 97, 0, 0, -1);
        y.give(0);
        y.give(1);
        c.due("0 would be FREE for 11", y.free(0, 1), 1);
        none(c, "but 9 takes it in this CHAIN", y, 2);
        y.gown(0, 12, 0, 0, 100, 9);
        links(c, "by one that is not in it", y, 2, 0, 0, 1, 1, 2);
    }

    private static GownLet party(int lots, int... sizes) {
        GownLet x = new GownLet();
        for (int lot = 0; lot < lots; lot++) {
            x.gown(0, 10, lot, 0, 100, 9);
        }
        for (int size : sizes) {
            x.book(size, 0, 100, 0, 0, 2);
        }
        return x;
    }

    private static void due(Check c, String what, GownLet x, int lot, int can, int all) {
        c.due(what + ": lot", x.match(2, 0), lot);
        c.due(what + ": how many", x.match(2, 1), can);
        c.due(what + ": of how many", x.match(2, 2), all);
    }

    private static void matches(Check c, Section s) {
        c.says(s, "A PARTY's MATCH: of LOTS the one in which most of its BOOKINGS");
        GownLet x = party(3, 10, 10, 10);
        x.gown(0, 10, 9, 0, 100, 9);
        due(c, "one each", x, 0, 1, 3);
        x.gown(0, 10, 9, 0, 100, 9);
        due(c, "two of 9", x, 9, 2, 3);
        x.gown(0, 10, 4, 0, 100, 9);
        x.gown(0, 10, 4, 0, 100, 9);
        x.gown(0, 10, 4, 0, 100, 9);
        due(c, "three of 4", x, 4, 3, 3);
        c.says(s, "(not CALLED OFF");
        x.off(1, 0);
        due(c, "one less", x, 4, 2, 2);
        x.off(0, 0);
        due(c, "two less", x, 0, 1, 1);
        x.off(2, 0);
        due(c, "all", x, NONE, NONE, NONE);
        c.says(s, "taken by numbers");
        GownLet y = new GownLet();
        y.gown(0, 11, 1, 0, 100, 9);
        y.gown(0, 9, 1, 0, 100, 9);
        y.book(10, 0, 100, 0, 0, 2);
        y.book(12, 0, 100, 0, 0, 2);
        due(c, "10 takes 11, the least number, so 12 goes without", y, 1, 1, 2);
        GownLet z = new GownLet();
        z.gown(0, 11, 1, 0, 100, 9);
        z.gown(0, 9, 1, 0, 100, 9);
        z.book(12, 0, 100, 0, 0, 2);
        z.book(10, 0, 100, 0, 0, 2);
        due(c, "12 ahead of 10 takes 11, 10 takes 9", z, 1, 2, 2);
        matchesOfLots(c, s);
    }

    private static void matchesOfLots(Check c, Section s) {
        c.says(s, "one that HAS one of that LOT counts");
        GownLet x = party(2, 10, 10);
        x.tear(0, 0);
        c.due("has one of LOT 1", x.give(0), 1);
        x.mend(0);
        due(c, "1 of LOT 1, 1 of LOT 0", x, 0, 1, 2);
        x.gown(0, 10, 1, 0, 100, 9);
        due(c, "2 of LOT 1", x, 1, 2, 2);
        x.retire(1);
        x.tear(1, 101);
        due(c, "RETIRED, but it HAS it", x, 1, 2, 2);
        GownLet only = party(6, 10);
        only.give(0);
        only.retire(0);
        due(c, "the one that it HAS", only, 0, 1, 1);
        c.says(s, "one that has none, if it could be GIVEN one, as if only PIECES of that LOT were there");
        GownLet y = party(0, 10, 10);
        y.gown(0, 12, 3, 0, 100, 9);
        due(c, "none FITS", y, 0, 0, 2);
        y.gown(0, 10, 3, 0, 100, 9);
        y.retire(1);
        due(c, "none is FREE", y, 0, 0, 2);
        y.gown(0, 10, 5, 0, 100, 9);
        y.gown(0, 11, 7, 0, 100, 9);
        due(c, "5 is nearer, but 7 counts for itself", y, 5, 1, 2);
        y.gown(0, 9, 7, 8, 100, 9);
        due(c, "two of 7", y, 7, 2, 2);
        c.says(s, "and those ahead had theirs) can be");
        GownLet z = party(0, 10, 11, 9);
        z.gown(0, 10, 6, 0, 100, 9);
        due(c, "the first has it", z, 6, 1, 3);
        z.gown(0, 12, 6, 0, 100, 9);
        due(c, "11 has 12, 9 none", z, 6, 2, 3);
        z.gown(0, 8, 6, 0, 100, 9);
        due(c, "all", z, 6, 3, 3);
        GownLet apart = party(1, 10);
        apart.book(10, 0, 103, 0, 0, 2);
        due(c, "AWAY on days of both", apart, 0, 1, 2);
        apart.book(10, 0, 104, 0, 0, 2);
        due(c, "the third one's days are others", apart, 0, 2, 3);
        c.says(s, "of like ones the least");
        for (int lot = 9; lot >= 0; lot--) {
            GownLet v = party(0, 10);
            for (int i = 9; i >= lot; i--) {
                v.gown(0, 10, i, 0, 100, 9);
            }
            due(c, "LOTS " + lot + " .. 9", v, lot, 1, 1);
        }
        due(c, "none at all", party(0, 10), 0, 0, 1);
        c.says(s, "(Nothing is given by it.)");
        Refusal.due(c, "match, the LOT", Scenes::shop, v -> v.match(1, 0) >= 0 ? 0 : 1, 0);
        Refusal.due(c, "match, how many", Scenes::shop, v -> v.match(1, 1) > 0 ? 0 : 1, 0);
        GownLet w = party(1, 10);
        due(c, "one", w, 0, 1, 1);
        c.due("none has one", w.count(6), 0);
        c.due("it can be given", w.give(0), 0);
        due(c, "one", w, 0, 1, 1);
        c.due("nor is it taken by it", w.has(0), 0);
    }

    private static void chain(Check c) {
        Section s = Section.promise(23);
        c.says(s, "A CHAIN for a BOOKING: how many BOOKINGS are in it");
        for (int holders = 0; holders <= 3; holders++) {
            c.due("how many", row(holders).chain(holders), holders + 1);
        }
        c.due("in the shop", Scenes.shop().chain(Scenes.CHAINED), 2);
        Refusal.due(c, "nothing is given by it", Scenes::shop, y -> y.chain(Scenes.CHAINED), 2);
        c.says(s, "(1: it is given one that is FREE)");
        Refusal.due(c, "it is not given yet", Scenes::shop, y -> y.chain(Scenes.CAN_BE), 1);
        GownLet x = Scenes.shop();
        c.due("in the shop", x.chain(Scenes.CAN_BE), 1);
        c.due("by swap", x.swap(Scenes.CAN_BE), 1);
        c.due("given", x.has(Scenes.CAN_BE), Scenes.SUIT);
        refusals(c, s, "chain", GownLet::chain);
        c.says(s, "NONE");
        noneRefused(c, "chain", GownLet::chain);
        c.allSaid(s);
    }

    private interface OfBooking {
        int on(GownLet x, int booking);
    }

    private static void refusals(Check c, Section s, String name, OfBooking call) {
        if (s != null) {
            c.says(s, "BAD");
        }
        Refusal.bounds(c, name, Scenes::shop, BAD, new int[] {4}, BOOKING, (y, n) -> call.on(y, n[0]));
        Refusal.bounds(c, name, Scenes::fullBookings, BAD, new int[] {4}, new int[][] {{0, 29}}, (y, n) -> call.on(y, n[0]));
        Refusal.due(c, name + ", no bookings at all", Scenes::empty, y -> call.on(y, 0), BAD);
        if (s != null) {
            c.says(s, name.equals("link") ? "NOT" : "NOT: it has one, or is CALLED OFF");
        }
        for (int booking : new int[] {Scenes.HAS, Scenes.OUT, Scenes.HOME, Scenes.HOLDER}) {
            Refusal.due(c, name + ", has one: " + booking, Scenes::shop, y -> call.on(y, booking), NOT);
        }
        Refusal.due(c, name + ", called off", Scenes::shop, y -> call.on(y, Scenes.OFF), NOT);
        GownLet x = Scenes.shop();
        x.off(Scenes.CANNOT, 20);
        c.due(name + ", NOT ahead of NONE", call.on(x, Scenes.CANNOT), NOT);
    }

    private static void noneRefused(Check c, String name, OfBooking call) {
        Refusal.due(c, name + ", none fits", Scenes::shop, y -> call.on(y, Scenes.CANNOT), NONE);
        Refusal.due(c, name + ", torn", Scenes::shop, y -> call.on(y, Scenes.FREED), NONE);
        Refusal.due(c, name + ", too many swaps", () -> row(4), y -> call.on(y, 4), NONE);
        Refusal.due(c, name + ", no pieces", () -> party(0, 10), y -> call.on(y, 0), NONE);
    }

    private static void link(Check c) {
        Section s = Section.promise(24);
        c.says(s, "Of place i (0 ..) of that CHAIN: 0 the BOOKING, 1 the PIECE that it takes");
        for (int holders = 0; holders <= 3; holders++) {
            GownLet x = row(holders);
            for (int i = 0; i <= holders; i++) {
                c.due(holders + " holders, booking at " + i, x.link(holders, i, 0), i == 0 ? holders : i - 1);
                c.due(holders + " holders, piece at " + i, x.link(holders, i, 1), i);
            }
        }
        Refusal.due(c, "nothing is given by it", Scenes::shop, y -> y.link(Scenes.CHAINED, 1, 1), Scenes.ABOVE);
        refusals(c, s, "link", (y, booking) -> y.link(booking, 0, 0));
        c.says(s, "BAD");
        int[][] ends = {BOOKING[0], {0, 1}, {0, 1}};
        Refusal.bounds(c, "link", Scenes::shop, BAD, new int[] {Scenes.CHAINED, 1, 1}, ends, (y, n) -> y.link(n[0], n[1], n[2]));
        for (int holders = 0; holders <= 3; holders++) {
            int last = holders;
            for (int i : new int[] {-1, MIN, holders + 1, holders + 2, 4, 5, MAX}) {
                for (int what = 0; what <= 1; what++) {
                    int of = what;
                    Refusal.due(c, "place " + i + " of " + (holders + 1), () -> row(last), y -> y.link(last, i, of), BAD);
                }
            }
        }
        for (int booking : new int[] {Scenes.HAS, Scenes.OFF, Scenes.CANNOT}) {
            Refusal.due(c, "BAD ahead of NOT, NONE: place -1", Scenes::shop, y -> y.link(booking, -1, 0), BAD);
            Refusal.due(c, "BAD ahead of NOT, NONE: place MIN", Scenes::shop, y -> y.link(booking, MIN, 1), BAD);
            Refusal.due(c, "BAD ahead of NOT, NONE: what -1", Scenes::shop, y -> y.link(booking, 0, -1), BAD);
            Refusal.due(c, "BAD ahead of NOT, NONE: what 2", Scenes::shop, y -> y.link(booking, 0, 2), BAD);
        }
        c.says(s, "NOT");
        Refusal.due(c, "at any place", Scenes::shop, y -> y.link(Scenes.HAS, 2, 0), NOT);
        Refusal.due(c, "of either", Scenes::shop, y -> y.link(Scenes.OFF, 1, 1), NOT);
        c.says(s, "NONE");
        noneRefused(c, "link", (y, booking) -> y.link(booking, 0, 0));
        noneRefused(c, "link", (y, booking) -> y.link(booking, 0, 1));
        noneRefused(c, "link", (y, booking) -> y.link(booking, 2, 1));
        c.allSaid(s);
    }

    private static void swap(Check c) {
        Section s = Section.promise(25);
        c.says(s, "The CHAIN is done");
        for (int holders = 0; holders <= 3; holders++) {
            GownLet x = row(holders);
            x.swap(holders);
            c.due("the first", x.has(holders), 0);
            for (int i = 0; i < holders; i++) {
                c.due("holder " + i, x.has(i), i + 1);
            }
            c.due("all have one", x.count(6), holders + 1);
            c.due("it has one now", x.swap(holders), NOT);
        }
        c.says(s, ": how many BOOKINGS have another PIECE, or one");
        for (int holders = 0; holders <= 3; holders++) {
            c.due("how many", row(holders).swap(holders), holders + 1);
        }
        c.says(s, "As chain()");
        refusals(c, null, "swap", GownLet::swap);
        noneRefused(c, "swap", GownLet::swap);
        c.allSaid(s);
    }

    private static void match(Check c) {
        Section s = Section.promise(26);
        GownLet x = Scenes.shop();
        c.says(s, "A PARTY's MATCH: 0 the LOT");
        c.due("party 0: has LOTS 1, 2, and one waits that fits none", x.match(0, 0), 1);
        c.due("party 1: has LOT 1", x.match(1, 0), 1);
        c.due("party 2: a SUIT of LOT 3", x.match(2, 0), 3);
        c.says(s, "1 how many");
        c.due("party 0", x.match(0, 1), 1);
        c.due("party 1", x.match(1, 1), 1);
        c.due("party 2", x.match(2, 1), 1);
        c.says(s, "2 how many there are");
        c.due("party 0", x.match(0, 2), 3);
        c.due("party 1", x.match(1, 2), 2);
        c.due("party 2", x.match(2, 2), 2);
        c.says(s, "BAD");
        Refusal.bounds(c, "match", Scenes::shop, BAD, new int[] {2, 1}, new int[][] {{0, 4}, {0, 2}}, (y, n) -> y.match(n[0], n[1]));
        Refusal.due(c, "-1 is no PARTY", Scenes::shop, y -> y.match(-1, 2), BAD);
        Refusal.due(c, "BAD ahead of NONE", Scenes::shop, y -> y.match(4, 3), BAD);
        Refusal.due(c, "BAD ahead of NONE", Scenes::shop, y -> y.match(4, -1), BAD);
        c.says(s, "NONE: it has no BOOKINGS");
        for (int what = 0; what <= 2; what++) {
            int of = what;
            Refusal.due(c, "none, what " + what, Scenes::shop, y -> y.match(4, of), NONE);
            Refusal.due(c, "none at all, what " + what, Scenes::empty, y -> y.match(0, of), NONE);
            Refusal.due(c, "all CALLED OFF, what " + what, ChainEdges::allOff, y -> y.match(2, of), NONE);
        }
        GownLet full = Scenes.fullBookings();
        c.due("21 of PARTY 3", full.match(3, 2), 21);
        c.due("none of them in any LOT", full.match(3, 1), 0);
        c.due("so the least", full.match(3, 0), 0);
        c.allSaid(s);
    }

    private static GownLet allOff() {
        GownLet x = party(1, 10);
        x.off(0, 0);
        return x;
    }

    private static GownLet days() {
        GownLet x = new GownLet();
        x.book(10, 0, 20, 0, 0, -1);
        x.book(10, 0, 380, 0, 399, -1);
        x.book(10, 0, 100, 0, 50, -1);
        x.book(10, 0, 110, 0, 60, -1);
        x.off(2, 70);
        x.off(3, 60);
        return x;
    }

    private static void asOf(Check c) {
        Section s = Section.promise(27);
        c.says(s, "AS OF a DAY (0 .. 399): 0 how many BOOKINGS count");
        int[] from = {0, 49, 50, 59, 60, 69, 70, 398, 399};
        int[] due = {1, 1, 2, 2, 2, 2, 1, 1, 2};
        for (int i = 0; i < from.length; i++) {
            c.due("as of " + from[i], days().asOf(from[i], 0, 0, 0), due[i]);
        }
        c.due("none at all", new GownLet().asOf(0, 0, 0, 0), 0);
        c.due("30", Scenes.fullBookings().asOf(19, 0, 0, 0), 9);
        c.due("but one", Scenes.fullBookings().asOf(399, 0, 0, 0), 29);
        c.says(s, "(a, b are not looked at)");
        for (int[] ab : new int[][] {{0, 0}, {399, 0}, {-1, -1}, {MAX, MIN}, {MIN, MAX}, {1000, 1000}}) {
            c.due("from " + ab[0] + " to " + ab[1], days().asOf(60, 0, ab[0], ab[1]), 2);
        }
        c.says(s, "1 how many of these on a NIGHT from a to b");
        int[][] nights = {{20, 380}, {20, 20}, {21, 380}, {20, 99}, {20, 100}, {100, 100}, {101, 380}, {99, 99}, {100, 20}, {380, 380}, {MIN, MAX}, {MAX, MIN}};
        int[] of50 = {2, 1, 1, 1, 2, 1, 0, 0, 0, 0, 2, 0};
        for (int i = 0; i < nights.length; i++) {
            c.due("as of 50 from " + nights[i][0] + " to " + nights[i][1], days().asOf(50, 1, nights[i][0], nights[i][1]), of50[i]);
        }
        c.due("only these that count", days().asOf(399, 1, 20, 379), 1);
        c.due("and the last NIGHT", days().asOf(399, 1, 20, 380), 2);
        c.says(s, "BAD");
        Refusal.bounds(c, "asOf", Scenes::shop, BAD, new int[] {20, 1}, new int[][] {{0, 399}, {0, 1}}, (y, n) -> y.asOf(n[0], n[1], 20, 380));
        Refusal.bounds(c, "asOf", Scenes::shop, BAD, new int[] {20, 0}, new int[][] {{0, 399}, {0, 1}}, (y, n) -> y.asOf(n[0], n[1], 20, 380));
        Refusal.due(c, "it changes nothing itself", Scenes::shop, y -> y.asOf(399, 0, 0, 0), 8);
        c.allSaid(s);
    }
}
