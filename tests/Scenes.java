/** Shops in which something can be refused: in each, calls of every kind have something to spoil. */
final class Scenes {
    // PIECES.
    static final int HAD = 0, IS_OUT = 1, WAS_OUT = 2, SUIT = 3, TORN = 4, RETIRED = 5, BELOW = 6, ABOVE = 7;
    // BOOKINGS.
    static final int HAS = 0, OUT = 1, HOME = 2, OFF = 3, CAN_BE = 4, CANNOT = 5, HOLDER = 6, CHAINED = 7, FREED = 8;
    static final int PIECES = 8, BOOKINGS = 9, DOUBLES = 1, TYPED = 4;
    // SHEETS.
    static final int BYTES = 0, SHORTS = 1, INTS = 2, NOTHING = 3;

    private Scenes() {
    }

    static GownLet empty() {
        return new GownLet();
    }

    static GownLet shop() {
        GownLet x = new GownLet();
        Check.type(x, "h1;c");
        x.post(0, 2, 3);
        x.same(0, 10, 1, 12);
        x.gown(0, 10, 1, 0, 1000, 3);
        x.longGown(0, 10, 2, 1, 2000, 5);
        x.longGown(0, 10, 1, 0, 3000, 2);
        x.suit(1, 12, 3, 0, 500, 1);
        x.gown(0, 20, 4, 2, 700, 9);
        x.gown(0, 30, 4, 0, 800, 9);
        x.gown(0, 30, 5, 0, 900, 9);
        x.gown(0, 32, 5, 0, 950, 9);
        x.hem(IS_OUT, 2);
        x.retire(RETIRED);
        x.book(10, 0, 100, 0, 5, 0);
        x.book(12, 1, 100, 1, 6, 0);
        x.book(10, 1, 200, 0, 7, 1);
        x.book(10, 2, 100, 0, 8, 1);
        x.book(10, 2, 110, 0, 9, 2);
        x.book(40, 0, 120, 0, 10, 2);
        x.book(31, 0, 150, 0, 11, -1);
        x.book(29, 0, 151, 0, 12, 0);
        x.book(20, 0, 160, 2, 13, 1);
        x.give(HAS);
        x.give(OUT);
        x.out(OUT, 3);
        x.give(HOME);
        x.out(HOME, 1);
        x.home(HOME, 203, 0x103);
        x.give(OFF);
        x.off(OFF, 20);
        x.give(HOLDER);
        x.give(FREED);
        x.tear(TORN, 150);
        x.sheet(BYTES, 0, 6);
        fill(x, BYTES, 0, 0, 11, 1, 90, 1, 14, 3);
        x.sheet(SHORTS, 1, 12);
        fill(x, SHORTS, 1, 0, 12, 2, 300, 2, 300, 4, 10, 0, 310, 3, 0, -1);
        x.sheet(INTS, 2, 7);
        fill(x, INTS, 2, 1, 30, 0, 320, 0, 15, 2);
        return x;
    }

    /** THE TAPE has 60 bytes. */
    static GownLet fullTape() {
        GownLet x = shop();
        Check.type(x, "3;e2;h2                                                 ");
        return x;
    }

    static GownLet fullPieces() {
        GownLet x = shop();
        for (int i = PIECES; i < 24; i++) {
            x.suit(0, 25, 6, 1, 100 + i, 5);
        }
        return x;
    }

    static GownLet fullDoubles() {
        GownLet x = shop();
        for (int i = DOUBLES; i < 20; i++) {
            x.same(0, 10, 2, 12);
        }
        return x;
    }

    /** As many BOOKINGS as told. */
    private static GownLet bookings(int n) {
        GownLet x = shop();
        for (int i = BOOKINGS; i < n; i++) {
            x.book(25, 0, 250, 1, 20, 3);
        }
        return x;
    }

    static GownLet fullBookings() {
        return bookings(30);
    }

    static GownLet oneBookingLeft() {
        return bookings(29);
    }

    static void fill(GownLet x, int sheet, int lane, int at, int... items) {
        for (int i = 0; i < items.length; i++) {
            x.item(sheet, lane, at + i, items[i]);
        }
    }
}
