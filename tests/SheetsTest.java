/** Promises 33 to 36: sheet, drop, item, books. */
final class SheetsTest {
    public static void main(String[] args) {
        Check c = new Check();
        sheet(c);
        item(c);
        lanes(c);
        books(c);
        refusals(c);
        full(c);
        c.end();
    }

    private static void sheet(Check c) {
        GownLet x = new GownLet();
        c.due("sheet -1", x.sheet(-1, 0, 1), GownLet.BAD);
        c.due("sheet 4", x.sheet(4, 0, 1), GownLet.BAD);
        c.due("lane -1", x.sheet(0, -1, 1), GownLet.BAD);
        c.due("lane 3", x.sheet(0, 3, 1), GownLet.BAD);
        c.due("37 items", x.sheet(0, 0, 37), GownLet.BAD);
        c.due("-1 items", x.sheet(0, 0, -1), GownLet.SIZE);
        c.due("fewest items", x.sheet(0, 0, Integer.MIN_VALUE), GownLet.SIZE);
        c.due("BAD ahead of SIZE", x.sheet(4, 0, -1), GownLet.BAD);
        c.due("nothing yet", x.drop(0), GownLet.NULL);
        c.due("no items", x.sheet(0, 0, 0), 0);
        c.due("36 items", x.sheet(3, 2, 36), 36);
        c.due("a refused row changes nothing", x.sheet(3, 0, -1), GownLet.SIZE);
        c.due("drop -1", x.drop(-1), GownLet.BAD);
        c.due("drop 4", x.drop(4), GownLet.BAD);
        c.due("drop", x.drop(3), 36);
        c.due("drop again", x.drop(3), GownLet.NULL);
        c.due("an empty row is a row", x.drop(0), 0);
        c.due("and is gone", x.drop(0), GownLet.NULL);
    }

    private static void item(Check c) {
        GownLet x = new GownLet();
        c.due("nothing", x.item(0, 0, 0, 0), GownLet.NULL);
        c.due("BAD ahead of NULL", x.item(0, 3, 0, 0), GownLet.BAD);
        c.due("sheet 4", x.item(4, 0, 0, 0), GownLet.BAD);
        c.due("sheet -1", x.item(-1, 0, 0, 0), GownLet.BAD);
        c.due("lane -1", x.item(0, -1, 0, 0), GownLet.BAD);
        x.sheet(0, 1, 3);
        c.due("as bytes", x.item(0, 0, 0, 0), GownLet.CAST);
        c.due("as ints", x.item(0, 2, 0, 0), GownLet.CAST);
        c.due("CAST ahead of INDEX", x.item(0, 2, 3, 0), GownLet.CAST);
        c.due("item -1", x.item(0, 1, -1, 0), GownLet.INDEX);
        c.due("item 3", x.item(0, 1, 3, 0), GownLet.INDEX);
        c.due("item MAX", x.item(0, 1, Integer.MAX_VALUE, 0), GownLet.INDEX);
        c.due("item MIN", x.item(0, 1, Integer.MIN_VALUE, 0), GownLet.INDEX);
        c.due("item 2", x.item(0, 1, 2, 0), 1);
        x.drop(0);
        c.due("dropped", x.item(0, 1, 2, 0), GownLet.NULL);
    }

    private static void fill(GownLet x, int sheet, int lane, int at, int... items) {
        for (int i = 0; i < items.length; i++) {
            x.item(sheet, lane, at + i, items[i]);
        }
    }

    private static void lanes(Check c) {
        for (int lane = 0; lane <= 2; lane++) {
            int high = lane == 0 ? 256 : lane == 1 ? 65536 : 0;
            GownLet x = new GownLet();
            x.sheet(1, lane, 6);
            fill(x, 1, lane, 0, 10 + high, high, 100 - high, 8, 7, high == 0 ? -1 : high - 1);
            c.due("lowest bits of lane " + lane, x.books(1, lane, 0, 1), 1);
            c.due("it counts", x.asOf(7, 1, 100, 100), 1);
            x.item(1, lane, 2, lane == 0 ? 200 : lane == 1 ? 65536 - 100 : -100);
            c.due("below 0 in lane " + lane, x.books(1, lane, 0, 1), GownLet.NOT);
        }
        GownLet y = new GownLet();
        y.sheet(1, 2, 6);
        fill(y, 1, 2, 0, 10, 0, 65636, 0, 0, -1);
        c.due("an int keeps its bits", y.books(1, 2, 0, 1), GownLet.NOT);
        GownLet z = new GownLet();
        z.sheet(0, 2, 6);
        fill(z, 0, 2, 0, 10, 0, 100, 0, 0, -1);
        z.sheet(0, 2, 6);
        c.due("a new row holds nothing of the old", z.books(0, 2, 0, 1), GownLet.NOT);
        fill(z, 0, 2, 1, 0, 100, 0, 0, -1);
        c.due("nor in its first item", z.books(0, 2, 0, 1), GownLet.NOT);
        fill(z, 0, 2, 0, 10, 0, 100);
        z.item(0, 2, 5, 0);
        c.due("the other sheets are others", z.books(1, 2, 0, 1), GownLet.NULL);
        c.due("a refused row leaves the old", z.sheet(0, 2, -1), GownLet.SIZE);
        c.due("so it stands", z.books(0, 2, 0, 1), 1);
        z.sheet(0, 2, 6);
        fill(z, 0, 2, 0, 10);
        z.item(0, 2, 2, 100);
        c.due("a new row's items are 0", z.books(0, 2, 0, 1), 2);
        z.gown(0, 10, 0, 0, 100, 9);
        c.due("0 wants a gown", z.give(1), 0);
        c.due("0 is town 0", z.away(0, 1, 0), 99);
        c.due("0 is day 0", z.asOf(0, 0, 0, 0), 2);
        c.due("0 is party 0", z.match(0, 2), 2);
    }

    private static void books(Check c) {
        GownLet x = new GownLet();
        x.gown(0, 10, 4, 3, 100, 9);
        x.suit(0, 12, 4, 3, 100, 9);
        x.sheet(2, 1, 13);
        fill(x, 2, 1, 1, 10, 0, 100, 3, 5, 3, 12, 2, 300, 4, 9, 3);
        c.due("from item 1", x.books(2, 1, 1, 2), 2);
        c.due("size and wants", x.give(0), 0);
        c.due("of the second", x.give(1), 1);
        c.due("night", x.away(0, 0, 0), 99);
        c.due("town", x.away(1, 1, 1), 303);
        c.due("made", x.asOf(5, 0, 0, 0), 1);
        c.due("made, the second", x.asOf(9, 0, 0, 0), 2);
        c.due("party", x.match(3, 2), 2);
        c.due("none", x.books(2, 1, 1, 0), 2);
        c.due("from the second alone", x.books(2, 1, 7, 1), 3);
        c.due("it is the second", x.asOf(9, 1, 300, 300), 2);
    }

    private static void refusals(Check c) {
        GownLet x = new GownLet();
        c.due("nothing", x.books(0, 0, 0, 1), GownLet.NULL);
        c.due("nothing, none", x.books(0, 0, 0, 0), GownLet.NULL);
        c.due("n 7 ahead of NULL", x.books(0, 0, 0, 7), GownLet.BAD);
        c.due("n -1", x.books(0, 0, 0, -1), GownLet.BAD);
        c.due("lane 3", x.books(0, 3, 0, 1), GownLet.BAD);
        c.due("lane -1", x.books(0, -1, 0, 1), GownLet.BAD);
        c.due("sheet 4", x.books(4, 0, 0, 1), GownLet.BAD);
        c.due("sheet -1", x.books(-1, 0, 0, 1), GownLet.BAD);
        x.sheet(0, 2, 12);
        c.due("as shorts", x.books(0, 1, 0, 1), GownLet.CAST);
        c.due("CAST ahead of INDEX", x.books(0, 1, 12, 1), GownLet.CAST);
        c.due("from -1", x.books(0, 2, -1, 1), GownLet.INDEX);
        c.due("from 7", x.books(0, 2, 7, 1), GownLet.INDEX);
        c.due("three", x.books(0, 2, 0, 3), GownLet.INDEX);
        c.due("INDEX ahead of NOT", x.books(0, 2, 1, 2), GownLet.INDEX);
        c.due("from MAX", x.books(0, 2, Integer.MAX_VALUE, 6), GownLet.INDEX);
        c.due("from MIN", x.books(0, 2, Integer.MIN_VALUE, 6), GownLet.INDEX);
        c.due("none from -1", x.books(0, 2, -1, 0), GownLet.INDEX);
        c.due("none from 13", x.books(0, 2, 13, 0), GownLet.INDEX);
        c.due("none from 12", x.books(0, 2, 12, 0), 0);
        c.due("zeros are not as told", x.books(0, 2, 0, 1), GownLet.NOT);
        int[] least = {1, 0, 20, 0, 0, -1};
        int[] most = {40, 2, 380, 8, 399, 4};
        for (int i = 0; i < 6; i++) {
            fill(x, 0, 2, 0, least);
            fill(x, 0, 2, 6, most);
            x.item(0, 2, i, least[i] - 1);
            c.due("item " + i + " too low", x.books(0, 2, 0, 2), GownLet.NOT);
            x.item(0, 2, i, least[i]);
            x.item(0, 2, 6 + i, most[i] + 1);
            c.due("item " + i + " too high", x.books(0, 2, 0, 2), GownLet.NOT);
        }
        c.due("none of two came", x.count(4), 0);
        fill(x, 0, 2, 6, most);
        c.due("both came", x.books(0, 2, 0, 2), 2);
    }

    private static void full(Check c) {
        GownLet x = new GownLet();
        x.sheet(0, 2, 36);
        for (int k = 0; k < 6; k++) {
            fill(x, 0, 2, 6 * k, 10, 0, 100, 0, 0, -1);
        }
        for (int k = 1; k <= 4; k++) {
            c.due("six", x.books(0, 2, 0, 6), 6 * k);
        }
        c.due("one", x.books(0, 2, 0, 1), 25);
        c.due("six more are too many", x.books(0, 2, 0, 6), GownLet.FULL);
        c.due("none of them came", x.count(4), 25);
        x.item(0, 2, 31, 3);
        c.due("NOT ahead of FULL", x.books(0, 2, 0, 6), GownLet.NOT);
        c.due("five", x.books(0, 2, 0, 5), 30);
        c.due("none", x.books(0, 2, 0, 0), 30);
        c.due("one more", x.books(0, 2, 0, 1), GownLet.FULL);
    }
}
