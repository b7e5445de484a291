/** Part 3 (bookings, days, what is free, given and torn) and promises 15 to 22, sentence by sentence. */
final class BookingsEdgesTest {
    private static final int BAD = GownLet.BAD, NOT = GownLet.NOT, FULL = GownLet.FULL, NONE = GownLet.NONE;
    private static final int MIN = Integer.MIN_VALUE, MAX = Integer.MAX_VALUE;
    private static final int[][] ENDS = {{1, 40}, {0, 2}, {20, 380}, {0, 8}, {0, 399}, {-1, 4}};
    private static final int[] GOOD = {10, 1, 100, 4, 50, 2};
    private static final int[][] BOOKING = {{0, Scenes.BOOKINGS - 1}};
    private static final int[][] PIECE_AND_BOOKING = {{0, Scenes.PIECES - 1}, {0, Scenes.BOOKINGS - 1}};

    public static void main(String[] args) {
        Check c = new Check();
        Section s = Section.part(3);
        bookings(c, s);
        days(c, s);
        isFree(c, s);
        isGiven(c, s);
        isTorn(c, s);
        ChainEdges.part(c, s);
        c.allSaid(s);
        book(c);
        off(c);
        give(c);
        has(c);
        free(c);
        away(c);
        tear(c);
        mend(c);
        ChainEdges.promises(c);
        c.end();
    }

    private static int book(GownLet x, int... n) {
        return x.book(n[0], n[1], n[2], n[3], n[4], n[5]);
    }

    /** Gowns of LABEL 10 in TOWN 0, and a BOOKING that fits on each NIGHT. */
    static GownLet gowns(int many, int... nights) {
        GownLet x = new GownLet();
        for (int i = 0; i < many; i++) {
            x.gown(0, 10, 0, 0, 100, 9);
        }
        for (int night : nights) {
            x.book(10, 0, night, 0, 0, -1);
        }
        return x;
    }

    private static GownLet post(int days, int night) {
        GownLet x = new GownLet();
        x.gown(0, 10, 0, 3, 100, 9);
        x.post(3, 5, days);
        x.book(10, 0, night, 5, 0, -1);
        return x;
    }

    private static void bookings(Check c, Section s) {
        c.says(s, "BOOKINGS 0 .. 29, as they come");
        GownLet x = new GownLet();
        for (int i = 0; i < 30; i++) {
            c.due("number", book(x, GOOD), i);
        }
        c.due("30", book(x, GOOD), FULL);
        String[] words = {"a body (SIZE", "what it wants)", "a NIGHT 20 .. 380", "a TOWN", "the DAY it was made (0 .. 399)", "perhaps a PARTY 0 .. 4 (or -1)"};
        for (int k = 0; k < 6; k++) {
            c.says(s, words[k]);
            for (int number = ENDS[k][0] - 1; number <= ENDS[k][1] + 1; number++) {
                int[] n = GOOD.clone();
                n[k] = number;
                boolean isGood = number >= ENDS[k][0] && number <= ENDS[k][1];
                c.due("number " + k + " is " + number, book(new GownLet(), n), isGood ? 0 : BAD);
            }
        }
        c.says(s, "Each HAS a PIECE or none (at first)");
        GownLet y = gowns(1, 100);
        c.due("none, though one is there", y.has(0), NONE);
        c.due("none has one", y.count(6), 0);
        c.says(s, "CALLED OFF is one on a DAY (not ahead of when it was made)");
        GownLet z = gowns(1);
        for (int made : new int[] {0, 1, 50, 398, 399}) {
            book(z, 10, 0, 100, 0, made, -1);
            int last = z.count(4) - 1;
            c.due("made on " + made + ", a day ahead", z.off(last, made - 1), BAD);
            c.due("made on " + made + ", the same day", z.off(last, made), 1);
        }
        c.says(s, ": it has none any more");
        GownLet v = gowns(1, 100, 100);
        v.give(0);
        v.off(0, 0);
        c.due("none", v.has(0), NONE);
        c.due("so another can have it", v.give(1), 0);
    }

    private static void days(Check c, Section s) {
        c.says(s, "(Days AWAY, LATE, HARM are by TERMS as they are.)");
        GownLet x = post(1, 100);
        x.give(0);
        x.out(0, 0);
        x.home(0, 104, 0x101);
        Check.terms(x, "h4;c5;l7;s11;t13;d99");
        c.due("first day", x.away(0, 0, 0), 95);
        c.due("last day", x.away(0, 0, 1), 106);
        c.due("days late", x.about(0, 2), 3);
        c.due("harm", x.about(0, 3), 24);
        c.due("owed", x.about(0, 4), 45);
        c.due("the deposit was paid", x.about(0, 1), 30);
        c.says(s, "A PIECE is AWAY for a BOOKING from the NIGHT less HOLD and the POST between its TOWN and the BOOKING's");
        for (int hold = 0; hold <= 9; hold++) {
            for (int days = 0; days <= 9; days++) {
                GownLet y = post(days, 20);
                Check.terms(y, "h" + hold);
                c.due("hold " + hold + " post " + days, y.away(0, 0, 0), 20 - hold - days);
            }
        }
        c.says(s, "to the NIGHT and that POST and CLEAN");
        for (int clean = 0; clean <= 9; clean++) {
            for (int days = 0; days <= 9; days++) {
                GownLet y = post(days, 380);
                Check.terms(y, "c" + clean);
                c.due("clean " + clean + " post " + days, y.away(0, 0, 1), 380 + clean + days);
            }
        }
        c.says(s, "(both ends counted)");
        for (int apart = 1; apart <= 9; apart++) {
            GownLet y = gowns(1, 100, 100 + apart, 100 - apart);
            y.give(0);
            c.due(apart + " behind: HOLD 1, CLEAN 2", y.free(0, 1), apart > 3 ? 1 : 0);
            c.due(apart + " ahead", y.free(0, 2), apart > 3 ? 1 : 0);
        }
    }

    private static void isFree(Check c, Section s) {
        c.says(s, "It is FREE for a BOOKING, if it is not RETIRED");
        GownLet x = gowns(1, 100);
        c.due("before", x.free(0, 0), 1);
        x.retire(0);
        c.due("told so", x.free(0, 0), 0);
        GownLet y = new GownLet();
        y.gown(0, 10, 0, 0, 100, 2);
        for (int night = 50; night <= 200; night += 50) {
            book(y, 10, 0, night, 0, 0, -1);
        }
        for (int i = 0; i < 2; i++) {
            c.due("worn " + i + " of 2", y.free(0, 3), 1);
            y.give(i);
            y.out(i, 0);
            c.due("out, but not worn " + i, y.free(0, 3), 1);
            y.home(i, 50 + 50 * i, 0);
        }
        c.due("worn 2 of 2", y.free(0, 3), 0);
        c.says(s, "not TORN from a day on that is no later than the NIGHT");
        for (int day = 0; day <= 399; day++) {
            GownLet z = gowns(1, 20, 200, 380);
            z.tear(0, day);
            for (int i = 0; i < 3; i++) {
                c.due("torn from " + day + " booking " + i, z.free(0, i), day > 20 + 180 * i ? 1 : 0);
            }
        }
        c.says(s, "and is AWAY on none of these days for another BOOKING that HAS it");
        GownLet z = gowns(1, 100, 104, 108, 106);
        z.give(0);
        c.due("days 103 .. 106 behind 99 .. 102", z.give(1), 0);
        c.due("days 107 .. 110 behind them", z.give(2), 0);
        c.due("days 105 .. 108", z.free(0, 3), 0);
        z.off(1, 0);
        c.due("for 107 .. 110 still", z.free(0, 3), 0);
        z.off(2, 0);
        c.due("none HAS it on these days", z.free(0, 3), 1);
        c.due("itself is not another", z.free(0, 0), 1);
        GownLet v = gowns(2, 100, 100);
        v.give(0);
        c.due("another has another", v.free(1, 1), 1);
        c.due("another waits", gowns(1, 100, 100).free(0, 0), 1);
    }

    private static void isGiven(Check c, Section s) {
        c.says(s, "GIVEN is a BOOKING the PIECE that FITS it and is FREE");
        GownLet x = gowns(1, 100, 100, 300);
        c.due("fits and is free", x.give(0), 0);
        c.due("fits, is not free", x.give(1), NONE);
        book(x, 12, 0, 300, 0, 0, -1);
        c.due("is free, does not fit", x.give(3), NONE);
        x.tear(0, 300);
        c.due("torn", x.give(2), NONE);
        c.says(s, "with the least OFF");
        GownLet y = new GownLet();
        Check.terms(y, "e9");
        int[] labels = {19, 1, 18, 3, 11, 10, 9};
        for (int i = 0; i < 7; i++) {
            y.gown(0, labels[i], 0, i == 5 ? 8 : 0, 100, 9);
            book(y, 10, 0, 100, 0, 0, -1);
        }
        int[] due = {5, 4, 6, 3, 2, 0, 1};
        for (int i = 0; i < 7; i++) {
            c.due("given", y.give(i), due[i]);
        }
        c.says(s, "of like ones the least POST");
        GownLet z = new GownLet();
        int[] days = {4, 0, 9, 3};
        for (int i = 0; i < 4; i++) {
            z.gown(0, i % 2 == 0 ? 9 : 11, 0, 1 + i, 100, 9);
            z.post(0, 1 + i, days[i]);
            book(z, 10, 0, 100, 0, 0, -1);
        }
        int[] byPost = {1, 3, 0, 2};
        for (int i = 0; i < 4; i++) {
            c.due("given", z.give(i), byPost[i]);
        }
        c.says(s, "of like ones the least number");
        GownLet v = new GownLet();
        for (int i = 0; i < 24; i++) {
            v.gown(0, i % 2 == 0 ? 9 : 11, i % 10, i % 4 + 1, 1 + i, 1 + i);
            book(v, 10, 0, 100, 0, 0, -1);
        }
        for (int i = 0; i < 24; i++) {
            c.due("given", v.give(i), i);
        }
    }

    private static void isTorn(Check c, Section s) {
        c.says(s, "TORN is a PIECE from a day on: all BOOKINGS that HAVE it with a NIGHT of that day or later");
        for (int day = 198; day <= 202; day++) {
            GownLet x = gowns(2, 100, 200, 300, 100, 200, 300);
            for (int i = 0; i < 6; i++) {
                x.give(i);
            }
            c.due("torn from " + day, x.tear(1, day), day <= 200 ? 2 : 1);
            int[] due = {0, 0, 0, 1, day <= 200 ? NONE : 1, NONE};
            for (int i = 0; i < 6; i++) {
                c.due("has " + i, x.has(i), due[i]);
            }
        }
        c.says(s, "and for which it is not, was not OUT, have none");
        GownLet x = gowns(1, 100, 200, 300);
        for (int i = 0; i < 3; i++) {
            x.give(i);
        }
        x.out(0, 0);
        x.home(0, 100, 0);
        x.out(1, 0);
        c.due("one that was out, one that is, one", x.tear(0, 0), 1);
        c.due("was out", x.has(0), 0);
        c.due("is out", x.has(1), 0);
        c.due("neither", x.has(2), NONE);
        c.due("it comes home", x.home(1, 200, 0), -30);
    }

    private static void book(Check c) {
        Section s = Section.promise(15);
        c.says(s, "A BOOKING: its number");
        for (int end = 0; end <= 1; end++) {
            int[] n = new int[6];
            for (int k = 0; k < 6; k++) {
                n[k] = ENDS[k][end];
            }
            GownLet x = new GownLet();
            for (int i = 0; i < 30; i++) {
                c.due("number", book(x, n), i);
                c.due("so many", x.count(4), i + 1);
            }
        }
        c.says(s, "BAD");
        Refusal.bounds(c, "book", Scenes::shop, BAD, GOOD, ENDS, BookingsEdgesTest::book);
        Refusal.bounds(c, "book, BAD ahead of FULL", Scenes::fullBookings, BAD, GOOD, ENDS, BookingsEdgesTest::book);
        c.says(s, "FULL: 30");
        GownLet x = Scenes.oneBookingLeft();
        c.due("a 30th", book(x, GOOD), 29);
        Refusal.due(c, "a 31st", Scenes::fullBookings, y -> book(y, GOOD), FULL);
        GownLet z = Scenes.fullBookings();
        z.off(Scenes.CAN_BE, 50);
        c.due("one CALLED OFF is a BOOKING still", book(z, GOOD), FULL);
        c.allSaid(s);
    }

    private static void off(Check c) {
        Section s = Section.promise(16);
        c.says(s, "CALLED OFF: 1");
        GownLet x = Scenes.shop();
        int off = x.count(5);
        c.due("one that has a PIECE", x.off(Scenes.HAS, 5), 1);
        c.due("one that has none", x.off(Scenes.CANNOT, 399), 1);
        c.due("two more", x.count(5), off + 2);
        c.due("it has none", x.has(Scenes.HAS), NONE);
        c.says(s, "BAD");
        Refusal.bounds(c, "off", Scenes::shop, BAD, new int[] {Scenes.FREED, 100}, new int[][] {{0, Scenes.BOOKINGS - 1}, {13, 399}},
                (y, n) -> y.off(n[0], n[1]));
        Refusal.due(c, "no bookings at all", Scenes::empty, y -> y.off(0, 10), BAD);
        Refusal.due(c, "BAD ahead of NOT, it was", Scenes::shop, y -> y.off(Scenes.OFF, 400), BAD);
        Refusal.due(c, "BAD ahead of NOT, is OUT", Scenes::shop, y -> y.off(Scenes.OUT, -1), BAD);
        c.says(s, ": also ahead of when it was made");
        Refusal.due(c, "a day ahead", Scenes::shop, y -> y.off(Scenes.HAS, 4), BAD);
        Refusal.due(c, "long ahead", Scenes::shop, y -> y.off(Scenes.HAS, 0), BAD);
        Refusal.due(c, "BAD ahead of NOT, it was", Scenes::shop, y -> y.off(Scenes.OFF, 7), BAD);
        Refusal.due(c, "BAD ahead of NOT, is OUT", Scenes::shop, y -> y.off(Scenes.OUT, 5), BAD);
        Refusal.due(c, "BAD ahead of NOT, was OUT", Scenes::shop, y -> y.off(Scenes.HOME, 6), BAD);
        c.says(s, "NOT: it was");
        for (int day : new int[] {8, 19, 20, 21, 399}) {
            Refusal.due(c, "again on " + day, Scenes::shop, y -> y.off(Scenes.OFF, day), NOT);
        }
        c.says(s, "or its PIECE is, was OUT");
        Refusal.due(c, "is OUT", Scenes::shop, y -> y.off(Scenes.OUT, 6), NOT);
        Refusal.due(c, "was OUT", Scenes::shop, y -> y.off(Scenes.HOME, 399), NOT);
        c.allSaid(s);
    }

    private static void give(Check c) {
        Section s = Section.promise(17);
        c.says(s, "A BOOKING is GIVEN a PIECE: which");
        GownLet x = Scenes.shop();
        c.due("the SUIT", x.give(Scenes.CAN_BE), Scenes.SUIT);
        c.due("it has it", x.has(Scenes.CAN_BE), Scenes.SUIT);
        c.says(s, "BAD");
        Refusal.bounds(c, "give", Scenes::shop, BAD, new int[] {4}, BOOKING, (y, n) -> y.give(n[0]));
        Refusal.bounds(c, "give", Scenes::fullBookings, BAD, new int[] {4}, new int[][] {{0, 29}}, (y, n) -> y.give(n[0]));
        Refusal.due(c, "no bookings at all", Scenes::empty, y -> y.give(0), BAD);
        c.says(s, "NOT: it has one");
        for (int booking : new int[] {Scenes.HAS, Scenes.OUT, Scenes.HOME, Scenes.HOLDER}) {
            Refusal.due(c, "has one: " + booking, Scenes::shop, y -> y.give(booking), NOT);
        }
        c.says(s, "or is CALLED OFF");
        Refusal.due(c, "called off", Scenes::shop, y -> y.give(Scenes.OFF), NOT);
        GownLet z = Scenes.shop();
        z.off(Scenes.CANNOT, 20);
        c.due("NOT ahead of NONE", z.give(Scenes.CANNOT), NOT);
        c.says(s, "NONE");
        Refusal.due(c, "none fits", Scenes::shop, y -> y.give(Scenes.CANNOT), NONE);
        Refusal.due(c, "none is free", Scenes::shop, y -> y.give(Scenes.CHAINED), NONE);
        Refusal.due(c, "torn", Scenes::shop, y -> y.give(Scenes.FREED), NONE);
        Refusal.due(c, "no pieces at all", () -> gowns(0, 100), y -> y.give(0), NONE);
        c.allSaid(s);
    }

    private static void has(Check c) {
        Section s = Section.promise(18);
        c.says(s, "The PIECE that a BOOKING HAS");
        GownLet x = Scenes.shop();
        int[] due = {Scenes.HAD, Scenes.IS_OUT, Scenes.WAS_OUT, NONE, NONE, NONE, Scenes.BELOW, NONE, NONE};
        for (int i = 0; i < due.length; i++) {
            c.due("has " + i, x.has(i), due[i]);
        }
        c.says(s, "BAD");
        Refusal.bounds(c, "has", Scenes::shop, BAD, new int[] {4}, BOOKING, (y, n) -> y.has(n[0]));
        Refusal.bounds(c, "has", Scenes::fullBookings, BAD, new int[] {4}, new int[][] {{0, 29}}, (y, n) -> y.has(n[0]));
        Refusal.due(c, "no bookings at all", Scenes::empty, y -> y.has(0), BAD);
        c.says(s, "NONE");
        for (int booking : new int[] {Scenes.OFF, Scenes.CAN_BE, Scenes.CANNOT, Scenes.FREED}) {
            Refusal.due(c, "none: " + booking, Scenes::shop, y -> y.has(booking), NONE);
        }
        c.allSaid(s);
    }

    private static void free(Check c) {
        Section s = Section.promise(19);
        c.says(s, "Whether a PIECE is FREE for a BOOKING");
        GownLet x = Scenes.shop();
        c.due("no matter what fits or is wanted", x.free(Scenes.ABOVE, Scenes.CAN_BE), 1);
        c.due("no matter whether it is CALLED OFF", x.free(Scenes.SUIT, Scenes.OFF), 1);
        c.due("HOME, but AWAY on its days", x.free(Scenes.WAS_OUT, Scenes.HAS), 1);
        c.due("OUT on these days", x.free(Scenes.IS_OUT, Scenes.HAS), 0);
        c.says(s, "(not looking at what it HAS itself)");
        c.due("has it itself", x.free(Scenes.HAD, Scenes.HAS), 1);
        c.due("has another itself", x.free(Scenes.ABOVE, Scenes.HAS), 1);
        c.due("is OUT itself with it", x.free(Scenes.IS_OUT, Scenes.OUT), 1);
        c.says(s, ": 1, 0");
        c.due("free", x.free(Scenes.SUIT, Scenes.CAN_BE), 1);
        c.due("retired", x.free(Scenes.RETIRED, Scenes.CAN_BE), 0);
        c.due("torn", x.free(Scenes.TORN, Scenes.FREED), 0);
        c.due("torn later", x.free(Scenes.TORN, Scenes.CAN_BE), 1);
        c.due("another has it", x.free(Scenes.BELOW, Scenes.CHAINED), 0);
        c.says(s, "BAD");
        Refusal.bounds(c, "free", Scenes::shop, BAD, new int[] {3, 4}, PIECE_AND_BOOKING, (y, n) -> y.free(n[0], n[1]));
        Refusal.due(c, "no pieces at all", () -> gowns(0, 100), y -> y.free(0, 0), BAD);
        Refusal.due(c, "no bookings at all", () -> gowns(1), y -> y.free(0, 0), BAD);
        c.allSaid(s);
    }

    private static void away(Check c) {
        Section s = Section.promise(20);
        c.says(s, "The first (0)");
        GownLet x = Scenes.shop();
        c.due("in one town", x.away(Scenes.HAD, Scenes.HAS, 0), 99);
        c.due("by 3 days of post", x.away(Scenes.TORN, Scenes.HAS, 0), 96);
        c.says(s, "last (1) day");
        c.due("in one town", x.away(Scenes.HAD, Scenes.HAS, 1), 102);
        c.due("by 3 days of post", x.away(Scenes.TORN, Scenes.HAS, 1), 105);
        c.says(s, "on which a PIECE would be AWAY for a BOOKING");
        c.due("whether it HAS it or not", x.away(Scenes.SUIT, Scenes.CANNOT, 0), 119);
        c.due("though it is CALLED OFF", x.away(Scenes.SUIT, Scenes.OFF, 1), 102);
        c.due("though it is RETIRED", x.away(Scenes.RETIRED, Scenes.HAS, 0), 99);
        GownLet first = post(9, 20);
        Check.terms(first, "h9;c9");
        c.due("the first of all days", first.away(0, 0, 0), 2);
        GownLet last = post(9, 380);
        Check.terms(last, "h9;c9");
        c.due("the last of all days", last.away(0, 0, 1), 398);
        c.says(s, "BAD");
        int[][] ends = {PIECE_AND_BOOKING[0], PIECE_AND_BOOKING[1], {0, 1}};
        Refusal.bounds(c, "away", Scenes::shop, BAD, new int[] {3, 4, 1}, ends, (y, n) -> y.away(n[0], n[1], n[2]));
        Refusal.due(c, "no pieces at all", () -> gowns(0, 100), y -> y.away(0, 0, 0), BAD);
        Refusal.due(c, "no bookings at all", () -> gowns(1), y -> y.away(0, 0, 0), BAD);
        c.allSaid(s);
    }

    private static void tear(Check c) {
        Section s = Section.promise(21);
        c.says(s, "A PIECE is TORN from a day (0 .. 399) on");
        for (int day : new int[] {0, 1, 398, 399}) {
            GownLet x = gowns(1);
            c.due("torn from " + day, x.tear(0, day), 0);
            c.due("from when", x.told(0, 9), day);
            c.due("how many", x.count(2), 1);
        }
        c.says(s, ": how many BOOKINGS have none by that");
        GownLet x = gowns(1, 50, 100, 150, 200, 250, 300);
        for (int i = 0; i < 5; i++) {
            x.give(i);
        }
        x.out(4, 0);
        int[] from = {399, 251, 201, 200, 149, 51, 50, 0};
        int[] due = {0, 0, 0, 1, 1, 1, 1, 0};
        for (int i = 0; i < from.length; i++) {
            c.due("torn from " + from[i], x.tear(0, from[i]), due[i]);
        }
        c.says(s, "BAD");
        Refusal.bounds(c, "tear", Scenes::shop, BAD, new int[] {Scenes.HAD, 100}, new int[][] {{0, Scenes.PIECES - 1}, {0, 399}},
                (y, n) -> y.tear(n[0], n[1]));
        Refusal.due(c, "BAD ahead of NOT", Scenes::shop, y -> y.tear(Scenes.TORN, 400), BAD);
        Refusal.due(c, "no pieces at all", Scenes::empty, y -> y.tear(0, 100), BAD);
        c.says(s, "NOT: it is (from that day, or ahead)");
        for (int day : new int[] {150, 151, 160, 399}) {
            Refusal.due(c, "torn from 150, told " + day, Scenes::shop, y -> y.tear(Scenes.TORN, day), NOT);
        }
        GownLet y = Scenes.shop();
        c.due("from a day ahead", y.tear(Scenes.TORN, 149), 0);
        c.due("it is from then on", y.told(Scenes.TORN, 9), 149);
        c.allSaid(s);
    }

    private static void mend(Check c) {
        Section s = Section.promise(22);
        c.says(s, "It is mended: 1");
        GownLet x = Scenes.shop();
        c.due("mended", x.mend(Scenes.TORN), 1);
        c.due("whole", x.told(Scenes.TORN, 9), NONE);
        c.due("none is torn", x.count(2), 0);
        c.due("who had it does not have it by that", x.has(Scenes.FREED), NONE);
        c.due("but can be given it", x.give(Scenes.FREED), Scenes.TORN);
        c.due("it can be torn from a later day", x.tear(Scenes.TORN, 161), 0);
        GownLet early = gowns(1, 20);
        early.tear(0, 0);
        c.due("torn from 0", early.mend(0), 1);
        c.due("free", early.free(0, 0), 1);
        c.says(s, "BAD");
        Refusal.bounds(c, "mend", Scenes::shop, BAD, new int[] {Scenes.TORN}, new int[][] {{0, Scenes.PIECES - 1}}, (y, n) -> y.mend(n[0]));
        Refusal.due(c, "no pieces at all", Scenes::empty, y -> y.mend(0), BAD);
        c.says(s, "NOT: it is not TORN");
        Refusal.due(c, "never was", Scenes::shop, y -> y.mend(Scenes.HAD), NOT);
        Refusal.due(c, "retired", Scenes::shop, y -> y.mend(Scenes.RETIRED), NOT);
        GownLet z = Scenes.shop();
        z.mend(Scenes.TORN);
        c.due("mended already", z.mend(Scenes.TORN), NOT);
        c.due("MAX", z.mend(MAX), BAD);
        c.due("MIN", z.mend(MIN), BAD);
        c.allSaid(s);
    }
}
