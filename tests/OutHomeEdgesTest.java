/** Part 4 and promises 28 to 32, sentence by sentence: the edges, and what is refused. */
final class OutHomeEdgesTest {
    private static final int BAD = GownLet.BAD, NOT = GownLet.NOT, NONE = GownLet.NONE;
    private static final int HOME_BAD = -1000001, HOME_NOT = -1000002;
    private static final int MIN = Integer.MIN_VALUE, MAX = Integer.MAX_VALUE;

    public static void main(String[] args) {
        Check c = new Check();
        Section s = Section.part(4);
        looks(c, s);
        harm(c, s);
        money(c, s);
        worth(c, s);
        known(c, s);
        c.allSaid(s);
        out(c);
        home(c);
        about(c);
        retire(c);
        count(c);
        c.end();
    }

    /** A gown of TOWN 1 that is had for a NIGHT in TOWN 0, a day of POST away. */
    private static GownLet one(int price, int life) {
        GownLet x = new GownLet();
        x.gown(0, 10, 0, 1, price, life);
        x.book(10, 0, 100, 0, 0, -1);
        x.book(10, 0, 200, 0, 0, -1);
        x.give(0);
        return x;
    }

    private static GownLet looked(String terms, int before, int day, int behind) {
        GownLet x = one(1000, 9);
        Check.terms(x, terms);
        x.out(0, before);
        x.home(0, day, behind);
        return x;
    }

    private static void looks(Check c, Section s) {
        c.says(s, "A PIECE goes OUT for a BOOKING that HAS it");
        GownLet x = one(1000, 9);
        c.due("has it", x.out(0, 0), 300);
        c.due("is OUT", x.about(0, 0), 1);
        c.due("has none", x.out(1, 0), NOT);
        c.says(s, "with a LOOK (bits 0 .. 7 of STAINS, 8 .. 11 of TEARS)");
        for (int bit = 0; bit < 12; bit++) {
            c.due("bit " + bit, looked("s7;t100", 0, 100, 1 << bit).about(0, 3), bit < 8 ? 7 : 100);
            c.due("bit " + bit + " was there", looked("s7;t100", 1 << bit, 100, 4095).about(0, 3), bit < 8 ? 449 : 356);
        }
        c.due("the least LOOK", one(1000, 9).out(0, 0), 300);
        c.due("the greatest LOOK", one(1000, 9).out(0, 4095), 300);
        c.due("beyond it", one(1000, 9).out(0, 4096), BAD);
        c.says(s, "and is HOME on a DAY");
        for (int day : new int[] {98, 99, 100, 398, 399}) {
            GownLet y = one(1000, 9);
            y.out(0, 0);
            c.holds("home on " + day, y.home(0, day, 0) > -1000);
            c.due("HOME", y.about(0, 0), 2);
        }
        c.says(s, "with a LOOK, or without (-1)");
        for (int look : new int[] {-1, 0, 1, 4094, 4095}) {
            GownLet y = one(1000, 9);
            y.out(0, 4095);
            c.due("look " + look, y.home(0, 100, look), -300);
        }
        c.says(s, "; then it has been worn a night more");
        for (int look : new int[] {-1, 0, 4095}) {
            GownLet y = one(1000, 9);
            c.due("not yet", y.told(0, 6), 0);
            y.out(0, 0);
            c.due("nor by going OUT", y.told(0, 6), 0);
            y.home(0, 97, look);
            c.due("nor by what is refused", y.told(0, 6), 0);
            y.home(0, 100, look);
            c.due("now", y.told(0, 6), 1);
            y.home(0, 100, look);
            c.due("once", y.told(0, 6), 1);
            c.due("in all", y.count(7), 1);
        }
    }

    private static void harm(Check c, Section s) {
        c.says(s, "HARM is what the second LOOK has more than the first: STAIN pence each, TEAR pence each");
        int[] first = {0, 0, 0, 4095, 4095, 0x0FF, 0xF00, 0x505, 0xA0A, 0x001, 0x100, 0x3, 0x300};
        int[] second = {0, 4095, 0x0FF, 4095, 0, 0xFFF, 0xFFF, 0xA0A, 0x505, 0x002, 0x200, 0x6, 0x600};
        int[] stains = {0, 8, 8, 0, 0, 0, 8, 2, 2, 1, 0, 1, 0};
        int[] tears = {0, 4, 0, 0, 0, 4, 0, 2, 2, 0, 1, 0, 1};
        for (int i = 0; i < first.length; i++) {
            c.due("from " + first[i] + " to " + second[i], looked("s1;t100", first[i], 100, second[i]).about(0, 3), stains[i] + 100 * tears[i]);
        }
        c.due("at most", looked("s999;t999", 0, 100, 4095).about(0, 3), 11988);
        c.due("by STAIN 0, TEAR 0", looked("s0;t0", 0, 100, 4095).about(0, 3), 0);
        c.says(s, "; without a second LOOK none is told");
        for (int look : new int[] {0, 1, 4095}) {
            c.due("first " + look, looked("s1;t100", look, 100, -1).about(0, 3), NONE);
        }
        c.due("a second LOOK that shows nothing is one", looked("s1;t100", 0, 100, 0).about(0, 3), 0);
        c.says(s, "LATE are days behind the last day AWAY less CLEAN");
        for (int day = 98; day <= 399; day++) {
            c.due("home on " + day, looked("l1", 0, day, 0).about(0, 2), Math.max(0, day - 101));
        }
        c.due("whatever CLEAN is", looked("c0", 0, 104, 0).about(0, 2), 3);
        c.due("whatever CLEAN is", looked("c9", 0, 104, 0).about(0, 2), 3);
        c.due("whatever HOLD is", looked("h9", 0, 104, 0).about(0, 2), 3);
        GownLet x = one(1000, 9);
        x.post(0, 1, 9);
        x.out(0, 0);
        x.home(0, 110, 0);
        c.due("the POST is waited for", x.about(0, 2), 1);
        GownLet y = one(1000, 9);
        y.post(0, 1, 0);
        y.out(0, 0);
        y.home(0, 100, 0);
        c.due("on the NIGHT, without POST", y.about(0, 2), 0);
    }

    private static void money(Check c, Section s) {
        c.says(s, "OWED: LATE times days late, and HARM");
        c.due("nothing", looked("l7;s11;t13", 0, 101, 0).about(0, 4), 0);
        c.due("late", looked("l7;s11;t13", 0, 104, 0).about(0, 4), 21);
        c.due("harm", looked("l7;s11;t13", 0, 101, 0x101).about(0, 4), 24);
        c.due("both", looked("l7;s11;t13", 0, 104, 0x101).about(0, 4), 45);
        c.due("late, no look", looked("l7;s11;t13", 0, 104, -1).about(0, 4), 21);
        c.due("no look", looked("l7;s11;t13", 0, 101, -1).about(0, 4), 0);
        c.due("at most", looked("l999;s999;t999", 0, 399, 4095).about(0, 4), 298 * 999 + 11988);
        c.says(s, "; taken off the DEPOSIT, what is more is asked for");
        int[] owed = {0, 299, 300, 301, 999};
        for (int pence : owed) {
            GownLet x = one(1000, 9);
            Check.terms(x, "s" + pence);
            x.out(0, 0);
            c.due("owed " + pence, x.home(0, 100, 1), pence - 300);
        }
        GownLet x = one(9999, 9);
        Check.terms(x, "d100");
        x.out(0, 0);
        c.due("all is given back", x.home(0, 100, 0), -9999);
        GownLet y = one(9999, 9);
        Check.terms(y, "d0;l999;s999;t999");
        y.out(0, 0);
        c.due("all is asked for", y.home(0, 399, 4095), 298 * 999 + 11988);
    }

    /** A gown with so many nights worn, all had ahead of the first. */
    private static GownLet worn(int price, int life, int nights) {
        GownLet x = new GownLet();
        x.gown(0, 10, 0, 0, price, life);
        for (int i = 0; i < nights; i++) {
            x.book(10, 0, 20 + 5 * i, 0, 0, -1);
            x.give(i);
        }
        for (int i = 0; i < nights; i++) {
            x.out(i, 0);
            x.home(i, 20 + 5 * i, 0);
        }
        return x;
    }

    private static void worth(Check c, Section s) {
        c.says(s, "WORTH: PRICE times (LIFE less nights worn) by LIFE");
        int[] lives = {99, 3, 2, 1};
        int[][] due = {{9999, 9999, 9999, 9999}, {9898, 6666, 4999, 0}, {9797, 3333, 0, 0}, {9696, 0, 0, 0}};
        for (int nights = 0; nights <= 3; nights++) {
            for (int k = 0; k < lives.length; k++) {
                c.due(nights + " nights of " + lives[k], worn(9999, lives[k], nights).told(0, 7), due[nights][k]);
            }
        }
        c.due("cut toward 0", worn(1, 2, 1).told(0, 7), 0);
        c.due("cut toward 0", worn(2, 3, 1).told(0, 7), 1);
        c.says(s, "not below 0");
        for (int nights = 2; nights <= 6; nights++) {
            c.due(nights + " nights of 2", worn(9999, 2, nights).told(0, 7), 0);
        }
        c.says(s, "RETIRED is a PIECE, if told so");
        GownLet x = worn(1000, 3, 1);
        c.due("not yet", x.told(0, 8), 0);
        x.retire(0);
        c.due("told so", x.told(0, 8), 1);
        c.says(s, "or worn LIFE nights or more");
        for (int nights = 0; nights <= 6; nights++) {
            c.due(nights + " nights of 4", worn(1000, 4, nights).told(0, 8), nights >= 4 ? 1 : 0);
            c.due("of 1", worn(1000, 1, nights).told(0, 8), nights >= 1 ? 1 : 0);
        }
        c.due("29 nights of 30", worn(1000, 30, 29).told(0, 8), 0);
        c.due("30 nights of 30", worn(1000, 30, 30).told(0, 8), 1);
        c.due("30 nights of 99", worn(1000, 99, 30).told(0, 8), 0);
    }

    private static void known(Check c, Section s) {
        c.says(s, "AS OF a DAY k, BOOKINGS count that were made on k or ahead");
        for (int made : new int[] {0, 1, 200, 398, 399}) {
            GownLet x = new GownLet();
            x.book(10, 0, 100, 0, made, -1);
            for (int day = 0; day <= 399; day++) {
                c.due("made " + made + " as of " + day, x.asOf(day, 0, 0, 0), day >= made ? 1 : 0);
            }
        }
        c.says(s, "and were not CALLED OFF on k or ahead");
        for (int off : new int[] {50, 51, 60, 398, 399}) {
            GownLet x = new GownLet();
            x.book(10, 0, 100, 0, 50, -1);
            x.off(0, off);
            for (int day = 40; day <= 399; day++) {
                c.due("off " + off + " as of " + day, x.asOf(day, 1, 100, 100), day >= 50 && day < off ? 1 : 0);
            }
        }
    }

    private static void out(Check c) {
        Section s = Section.promise(28);
        c.says(s, "A PIECE goes OUT: the DEPOSIT");
        int[] prices = {1, 3, 4, 99, 9999};
        int[] due = {0, 0, 1, 29, 2999};
        for (int i = 0; i < prices.length; i++) {
            c.due("30 hundredths of " + prices[i], one(prices[i], 9).out(0, 0), due[i]);
        }
        for (int part = 0; part <= 100; part++) {
            GownLet x = one(9999, 9);
            Check.terms(x, "d" + part);
            c.due(part + " hundredths", x.out(0, 0), 9999 * part / 100);
        }
        GownLet late = Scenes.shop();
        late.retire(Scenes.HAD);
        c.due("RETIRED, but it HAS it", late.out(Scenes.HAS, 0), 300);
        c.says(s, "BAD");
        Refusal.bounds(c, "out", Scenes::shop, BAD, new int[] {Scenes.HAS, 5}, new int[][] {{0, Scenes.BOOKINGS - 1}, {0, 4095}},
                (y, n) -> y.out(n[0], n[1]));
        Refusal.due(c, "no bookings at all", Scenes::empty, y -> y.out(0, 0), BAD);
        for (int booking : new int[] {Scenes.CANNOT, Scenes.OFF, Scenes.OUT, Scenes.HOME}) {
            Refusal.due(c, "BAD ahead of NOT", Scenes::shop, y -> y.out(booking, -1), BAD);
            Refusal.due(c, "BAD ahead of NOT", Scenes::shop, y -> y.out(booking, 4096), BAD);
        }
        c.says(s, "NOT: the BOOKING HAS none");
        for (int booking : new int[] {Scenes.OFF, Scenes.CAN_BE, Scenes.CANNOT, Scenes.CHAINED, Scenes.FREED}) {
            Refusal.due(c, "has none: " + booking, Scenes::shop, y -> y.out(booking, 0), NOT);
        }
        c.says(s, "or it was OUT");
        Refusal.due(c, "is OUT", Scenes::shop, y -> y.out(Scenes.OUT, 0), NOT);
        Refusal.due(c, "is OUT, another LOOK", Scenes::shop, y -> y.out(Scenes.OUT, 4095), NOT);
        Refusal.due(c, "is HOME", Scenes::shop, y -> y.out(Scenes.HOME, 0), NOT);
        c.allSaid(s);
    }

    private static void home(Check c) {
        Section s = Section.promise(29);
        c.says(s, "It is HOME: what is asked for (below 0: what is given back)");
        c.due("given back", Scenes.shop().home(Scenes.OUT, 100, 3), -600);
        c.due("asked for", Scenes.shop().home(Scenes.OUT, 110, 3 | 0xF00), 500 + 3600 - 600);
        GownLet even = Scenes.shop();
        Check.terms(even, "x");
        Check.terms(even, "s600");
        c.due("neither", even.home(Scenes.OUT, 100, 7), 0);
        c.says(s, "BAD less 1000000 (-1000001)");
        int[][] ends = {{0, Scenes.BOOKINGS - 1}, {99, 399}, {-1, 4095}};
        Refusal.bounds(c, "home", Scenes::shop, HOME_BAD, new int[] {Scenes.OUT, 100, 3}, ends, (y, n) -> y.home(n[0], n[1], n[2]));
        Refusal.due(c, "no bookings at all", Scenes::empty, y -> y.home(0, 100, 0), HOME_BAD);
        for (int booking : new int[] {Scenes.HAS, Scenes.CANNOT, Scenes.OFF, Scenes.HOME}) {
            Refusal.due(c, "BAD ahead of NOT", Scenes::shop, y -> y.home(booking, 300, -2), HOME_BAD);
            Refusal.due(c, "BAD ahead of NOT", Scenes::shop, y -> y.home(booking, 300, 4096), HOME_BAD);
            Refusal.due(c, "BAD ahead of NOT", Scenes::shop, y -> y.home(booking, 400, 0), HOME_BAD);
            Refusal.due(c, "BAD ahead of NOT", Scenes::shop, y -> y.home(booking, -1, 0), HOME_BAD);
        }
        c.says(s, ": also ahead of the first day AWAY");
        for (int day : new int[] {0, 1, 97, 98}) {
            Refusal.due(c, "AWAY from 99, home on " + day, Scenes::shop, y -> y.home(Scenes.OUT, day, 3), HOME_BAD);
        }
        for (int days = 0; days <= 9; days++) {
            int first = 20 - 9 - days;
            c.due("on the first day", homeFromNight20(days, first), -30);
            c.due("a day ahead of it", homeFromNight20(days, first - 1), HOME_BAD);
        }
        Refusal.due(c, "BAD ahead of NOT, not OUT yet", Scenes::shop, y -> y.home(Scenes.HAS, 98, 0), HOME_BAD);
        Refusal.due(c, "BAD ahead of NOT, HOME", Scenes::shop, y -> y.home(Scenes.HOME, 198, 0), HOME_BAD);
        c.says(s, "NOT less that (-1000002): it is not OUT");
        Refusal.due(c, "not OUT yet", Scenes::shop, y -> y.home(Scenes.HAS, 99, 0), HOME_NOT);
        for (int booking : new int[] {Scenes.OFF, Scenes.CAN_BE, Scenes.CANNOT, Scenes.FREED}) {
            Refusal.due(c, "has none: " + booking, Scenes::shop, y -> y.home(booking, 0, 0), HOME_NOT);
            Refusal.due(c, "has none: " + booking, Scenes::shop, y -> y.home(booking, 399, -1), HOME_NOT);
        }
        c.says(s, "or was HOME");
        for (int day : new int[] {199, 203, 399}) {
            Refusal.due(c, "again on " + day, Scenes::shop, y -> y.home(Scenes.HOME, day, 0), HOME_NOT);
            Refusal.due(c, "again without a LOOK", Scenes::shop, y -> y.home(Scenes.HOME, day, -1), HOME_NOT);
        }
        c.allSaid(s);
    }

    /** Home on a day from a NIGHT 20, by HOLD 9 and so many days of POST. */
    private static int homeFromNight20(int post, int day) {
        GownLet x = new GownLet();
        x.gown(0, 10, 0, 1, 100, 9);
        x.post(0, 1, post);
        Check.terms(x, "h9");
        x.book(10, 0, 20, 0, 0, -1);
        x.give(0);
        x.out(0, 0);
        return x.home(0, day, 0);
    }

    private static void about(Check c) {
        Section s = Section.promise(30);
        c.says(s, "Of a BOOKING: 0 whether OUT (1; 2 HOME; 0 neither)");
        int[] due = {0, 1, 2, 0, 0, 0, 0, 0, 0};
        GownLet x = Scenes.shop();
        for (int i = 0; i < due.length; i++) {
            c.due("booking " + i, x.about(i, 0), due[i]);
        }
        c.says(s, "1 DEPOSIT");
        c.due("OUT", x.about(Scenes.OUT, 1), 600);
        c.due("HOME", x.about(Scenes.HOME, 1), 900);
        c.says(s, "2 days LATE");
        c.due("203 for 200", x.about(Scenes.HOME, 2), 3);
        c.says(s, "3 HARM (NONE: not told)");
        c.due("a stain and a tear more", x.about(Scenes.HOME, 3), 200 + 900);
        c.due("without a second LOOK", looked("s1", 0, 100, -1).about(0, 3), NONE);
        c.says(s, "4 OWED");
        c.due("three days, a stain and a tear", x.about(Scenes.HOME, 4), 150 + 200 + 900);
        c.due("without a second LOOK", looked("l1", 0, 103, -1).about(0, 4), 2);
        c.says(s, "BAD");
        Refusal.bounds(c, "about", Scenes::shop, BAD, new int[] {Scenes.HOME, 0}, new int[][] {{0, Scenes.BOOKINGS - 1}, {0, 4}},
                (y, n) -> y.about(n[0], n[1]));
        Refusal.due(c, "no bookings at all", Scenes::empty, y -> y.about(0, 0), BAD);
        c.says(s, ": also 1 to 4 of one that was not OUT");
        for (int booking : new int[] {Scenes.HAS, Scenes.OFF, Scenes.CAN_BE, Scenes.FREED}) {
            for (int what = 1; what <= 4; what++) {
                int of = what;
                Refusal.due(c, "booking " + booking + " what " + what, Scenes::shop, y -> y.about(booking, of), BAD);
            }
            c.due("0 is told", x.about(booking, 0), 0);
        }
        c.says(s, "2 to 4 of one that is not HOME");
        for (int what = 2; what <= 4; what++) {
            int of = what;
            Refusal.due(c, "OUT, what " + what, Scenes::shop, y -> y.about(Scenes.OUT, of), BAD);
        }
        c.allSaid(s);
    }

    private static void retire(Check c) {
        Section s = Section.promise(31);
        c.says(s, "A PIECE is RETIRED: WORTH");
        GownLet x = Scenes.shop();
        c.due("new", x.retire(Scenes.BELOW), 900);
        c.due("worn 1 of 2", x.retire(Scenes.WAS_OUT), 1500);
        c.due("it is", x.told(Scenes.BELOW, 8), 1);
        c.due("three are", x.count(1), 3);
        c.due("who HAS it has it still", x.has(Scenes.HOLDER), Scenes.BELOW);
        c.says(s, "BAD");
        Refusal.bounds(c, "retire", Scenes::shop, BAD, new int[] {Scenes.HAD}, new int[][] {{0, Scenes.PIECES - 1}}, (y, n) -> y.retire(n[0]));
        Refusal.due(c, "no pieces at all", Scenes::empty, y -> y.retire(0), BAD);
        c.says(s, "NOT: it is");
        Refusal.due(c, "told so", Scenes::shop, y -> y.retire(Scenes.RETIRED), NOT);
        Refusal.due(c, "worn LIFE nights", () -> worn(1000, 2, 2), y -> y.retire(0), NOT);
        Refusal.due(c, "worn more", () -> worn(1000, 2, 3), y -> y.retire(0), NOT);
        c.due("worn a night less", worn(1000, 2, 1).retire(0), 500);
        c.allSaid(s);
    }

    private static void count(Check c) {
        Section s = Section.promise(32);
        GownLet x = Scenes.shop();
        GownLet none = new GownLet();
        String[] words = {"How many: 0 PIECES", "1 RETIRED", "2 TORN", "3 DOUBLES", "4 BOOKINGS", "5 CALLED OFF", "6 that HAVE a PIECE", "7 nights worn in all"};
        int[] due = {8, 1, 1, 1, 9, 1, 4, 1};
        for (int what = 0; what < 8; what++) {
            c.says(s, words[what]);
            c.due("in the shop", x.count(what), due[what]);
            c.due("at first", none.count(what), 0);
        }
        c.due("nights of two PIECES", twoWorn().count(7), 3);
        c.due("at most 24 PIECES", Scenes.fullPieces().count(0), 24);
        c.due("at most 20 DOUBLES", Scenes.fullDoubles().count(3), 20);
        c.due("at most 30 BOOKINGS", Scenes.fullBookings().count(4), 30);
        c.due("RETIRED by nights worn", worn(1000, 2, 2).count(1), 1);
        c.says(s, "BAD");
        for (int what : new int[] {-1, 8, MIN, MAX}) {
            Refusal.due(c, "what " + what, Scenes::shop, y -> y.count(what), BAD);
        }
        c.allSaid(s);
    }

    private static GownLet twoWorn() {
        GownLet x = worn(1000, 9, 2);
        x.suit(0, 10, 0, 0, 100, 9);
        x.book(10, 2, 100, 0, 0, -1);
        x.give(2);
        x.out(2, 0);
        x.home(2, 100, -1);
        return x;
    }
}
