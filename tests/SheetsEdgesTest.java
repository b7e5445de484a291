/** Promises 33 to 36 and the line ahead of them, sentence by sentence: the edges, and what is refused. */
final class SheetsEdgesTest {
    private static final int BAD = GownLet.BAD, NOT = GownLet.NOT, FULL = GownLet.FULL, NONE = GownLet.NONE;
    private static final int NULL = GownLet.NULL, CAST = GownLet.CAST, INDEX = GownLet.INDEX, SIZE = GownLet.SIZE;
    private static final int MIN = Integer.MIN_VALUE, MAX = Integer.MAX_VALUE;
    private static final int[] LEAST = {1, 0, 20, 0, 0, -1}, MOST = {40, 2, 380, 8, 399, 4};

    public static void main(String[] args) {
        Check c = new Check();
        ahead(c);
        sheet(c);
        drop(c);
        item(c);
        books(c);
        c.end();
    }

    /** SHEET 0 is a row of these items. */
    private static GownLet row(int lane, int... items) {
        GownLet x = new GownLet();
        x.sheet(0, lane, items.length);
        Scenes.fill(x, 0, lane, 0, items);
        return x;
    }

    private static void ahead(Check c) {
        Section s = Section.aheadOfSheets();
        c.says(s, "sheets 0 .. 3");
        for (int sheet = 0; sheet <= 3; sheet++) {
            GownLet x = new GownLet();
            c.due("sheet " + sheet, x.sheet(sheet, 0, 7), 7);
            for (int other = 0; other <= 3; other++) {
                c.due("sheet " + other, x.drop(other), other == sheet ? 7 : NULL);
            }
        }
        c.due("sheet 4", new GownLet().sheet(4, 0, 7), BAD);
        c.due("sheet -1", new GownLet().sheet(-1, 0, 7), BAD);
        c.says(s, "nothing (at first)");
        for (int sheet = 0; sheet <= 3; sheet++) {
            c.due("drop", new GownLet().drop(sheet), NULL);
            c.due("books", new GownLet().books(sheet, 0, 0, 0), NULL);
            for (int lane = 0; lane <= 2; lane++) {
                c.due("item", new GownLet().item(sheet, lane, 0, 0), NULL);
                c.due("books", new GownLet().books(sheet, lane, 0, 1), NULL);
            }
        }
        c.says(s, "or a row of a LANE: 0 bytes, 1 shorts, 2 ints");
        for (int lane = 0; lane <= 2; lane++) {
            GownLet x = new GownLet();
            x.sheet(1, lane, 3);
            for (int as = 0; as <= 2; as++) {
                c.due("a row of " + lane + " as of " + as, x.item(1, as, 0, 5), as == lane ? 1 : CAST);
            }
        }
        c.due("byte 128 is -128", row(0, 10, 0, 128, 0, 0, -1).books(0, 0, 0, 1), NOT);
        c.due("byte 127", row(0, 10, 0, 127, 0, 127, -1).books(0, 0, 0, 1), 1);
        c.due("short 380", row(1, 10, 0, 380, 0, 399, -1).books(0, 1, 0, 1), 1);
        c.due("int 380", row(2, 10, 0, 380, 0, 399, -1).books(0, 2, 0, 1), 1);
        c.says(s, "of 0 to 36 items");
        for (int n = 0; n <= 36; n++) {
            GownLet x = new GownLet();
            c.due("items", x.sheet(0, 2, n), n);
            c.due("item " + n, x.item(0, 2, n, 1), INDEX);
            c.due("item " + (n - 1), x.item(0, 2, n - 1, 1), n == 0 ? INDEX : 1);
            c.due("dropped", x.drop(0), n);
        }
        c.allSaid(s);
    }

    private static void sheet(Check c) {
        Section s = Section.promise(33);
        c.says(s, "A SHEET holds a new row of a LANE: n");
        GownLet x = Scenes.shop();
        c.due("another row", x.sheet(Scenes.SHORTS, 2, 6), 6);
        c.due("of another LANE", x.item(Scenes.SHORTS, 1, 0, 1), CAST);
        c.due("its items are 0", x.books(Scenes.SHORTS, 2, 0, 1), NOT);
        x.item(Scenes.SHORTS, 2, 0, 10);
        x.item(Scenes.SHORTS, 2, 2, 100);
        c.due("all of them", x.books(Scenes.SHORTS, 2, 0, 1), 10);
        c.due("TOWN 0", x.away(Scenes.HAD, 9, 1), 102);
        c.due("made on 0", x.asOf(0, 0, 0, 0), 1);
        c.due("PARTY 0", x.match(0, 2), 4);
        c.due("a row of none", x.sheet(Scenes.SHORTS, 0, 0), 0);
        c.due("a row of 36", x.sheet(Scenes.SHORTS, 0, 36), 36);
        for (int at = 0; at < 36; at++) {
            boolean isToldBy0 = at % 6 != 0 && at % 6 != 2;
            GownLet y = row(2, 10, -5, 100, -5, -5, -5, 10, -5, 100, -5, -5, -5, 10, -5, 100, -5, -5, -5,
                    10, -5, 100, -5, -5, -5, 10, -5, 100, -5, -5, -5, 10, -5, 100, -5, -5, -5);
            y.sheet(0, 2, 36);
            for (int i = 0; i < 36; i++) {
                if (i != at) {
                    y.item(0, 2, i, repeated(6)[i]);
                }
            }
            c.due("nothing of the old row at " + at, y.books(0, 2, 0, 6), isToldBy0 ? 6 : NOT);
        }
        c.says(s, "BAD");
        Refusal.bounds(c, "sheet", Scenes::shop, BAD, new int[] {1, 1}, new int[][] {{0, 3}, {0, 2}}, (y, n) -> y.sheet(n[0], n[1], 6));
        c.says(s, ": also n above 36");
        for (int n : new int[] {37, 38, 100, MAX}) {
            for (int lane = 0; lane <= 2; lane++) {
                int of = lane;
                Refusal.due(c, n + " items of lane " + lane, Scenes::shop, y -> y.sheet(Scenes.BYTES, of, n), BAD);
            }
        }
        c.says(s, "SIZE: n below 0");
        for (int n : new int[] {-1, -2, -37, MIN}) {
            for (int sheet = 0; sheet <= 3; sheet++) {
                int of = sheet;
                Refusal.due(c, n + " items", Scenes::shop, y -> y.sheet(of, 1, n), SIZE);
            }
            Refusal.due(c, "BAD ahead of SIZE, sheet 4", Scenes::shop, y -> y.sheet(4, 1, n), BAD);
            Refusal.due(c, "BAD ahead of SIZE, sheet -1", Scenes::shop, y -> y.sheet(-1, 1, n), BAD);
            Refusal.due(c, "BAD ahead of SIZE, lane 3", Scenes::shop, y -> y.sheet(1, 3, n), BAD);
            Refusal.due(c, "BAD ahead of SIZE, lane -1", Scenes::shop, y -> y.sheet(1, -1, n), BAD);
        }
        c.allSaid(s);
    }

    private static void drop(Check c) {
        Section s = Section.promise(34);
        c.says(s, "A SHEET holds nothing: how many items it had");
        GownLet x = Scenes.shop();
        int[] due = {6, 12, 7, NULL};
        for (int sheet = 0; sheet <= 3; sheet++) {
            c.due("had", x.drop(sheet), due[sheet]);
            c.due("books", x.books(sheet, sheet % 3, 0, 0), NULL);
            c.due("item", x.item(sheet, sheet % 3, 0, 1), NULL);
        }
        c.due("a new row", x.sheet(Scenes.INTS, 0, 0), 0);
        c.due("a row of none is a row", x.drop(Scenes.INTS), 0);
        c.due("which is gone", x.drop(Scenes.INTS), NULL);
        c.due("36", x.sheet(Scenes.INTS, 0, 36), 36);
        c.due("36", x.drop(Scenes.INTS), 36);
        c.says(s, "BAD");
        Refusal.bounds(c, "drop", Scenes::shop, BAD, new int[] {1}, new int[][] {{0, 3}}, (y, n) -> y.drop(n[0]));
        c.says(s, "NULL");
        Refusal.due(c, "nothing", Scenes::shop, y -> y.drop(Scenes.NOTHING), NULL);
        GownLet z = Scenes.shop();
        z.drop(Scenes.BYTES);
        c.due("twice", z.drop(Scenes.BYTES), NULL);
        c.allSaid(s);
    }

    private static void item(Check c) {
        Section s = Section.promise(35);
        c.says(s, "Item i of a SHEET, taken as a row of a LANE, becomes v");
        for (int lane = 0; lane <= 2; lane++) {
            GownLet x = new GownLet();
            x.sheet(0, lane, 36);
            for (int i = 0; i < 36; i++) {
                c.due("item " + i, x.item(0, lane, i, i % 6 == 0 ? 10 : i % 6 == 2 ? 20 + i : i % 6 == 5 ? -1 : 0), 1);
            }
            c.due("six BOOKINGS", x.books(0, lane, 0, 6), 6);
            for (int k = 0; k < 6; k++) {
                c.due("each its NIGHT", x.asOf(0, 1, 22 + 6 * k, 22 + 6 * k), 1);
            }
            x.item(0, lane, 2, 99);
            x.item(0, lane, 2, 98);
            c.due("the last one holds", x.books(0, lane, 0, 1), 7);
            c.due("98", x.asOf(0, 1, 98, 98), 1);
        }
        lowestBits(c, s);
        c.says(s, "BAD");
        Refusal.bounds(c, "item", Scenes::shop, BAD, new int[] {1, 1}, new int[][] {{0, 3}, {0, 2}}, (y, n) -> y.item(n[0], n[1], 2, 77));
        Refusal.due(c, "BAD ahead of NULL", Scenes::shop, y -> y.item(Scenes.NOTHING, 3, 0, 1), BAD);
        Refusal.due(c, "BAD ahead of NULL", Scenes::shop, y -> y.item(Scenes.NOTHING, -1, 0, 1), BAD);
        Refusal.due(c, "BAD ahead of INDEX", Scenes::shop, y -> y.item(Scenes.SHORTS, 3, 12, 1), BAD);
        Refusal.due(c, "BAD ahead of INDEX", Scenes::shop, y -> y.item(4, 1, -1, 1), BAD);
        c.says(s, "NULL");
        for (int lane = 0; lane <= 2; lane++) {
            int of = lane;
            Refusal.due(c, "nothing", Scenes::shop, y -> y.item(Scenes.NOTHING, of, 0, 1), NULL);
            Refusal.due(c, "NULL ahead of INDEX", Scenes::shop, y -> y.item(Scenes.NOTHING, of, -1, 1), NULL);
            Refusal.due(c, "NULL ahead of INDEX", Scenes::shop, y -> y.item(Scenes.NOTHING, of, 36, 1), NULL);
        }
        GownLet dropped = Scenes.shop();
        dropped.drop(Scenes.SHORTS);
        c.due("NULL ahead of CAST", dropped.item(Scenes.SHORTS, 0, 0, 1), NULL);
        c.says(s, "CAST");
        for (int sheet = 0; sheet <= 2; sheet++) {
            for (int lane = 0; lane <= 2; lane++) {
                int of = sheet;
                int as = lane;
                if (sheet != lane) {
                    Refusal.due(c, "lane " + sheet + " as " + lane, Scenes::shop, y -> y.item(of, as, 0, 5), CAST);
                    Refusal.due(c, "CAST ahead of INDEX", Scenes::shop, y -> y.item(of, as, -1, 5), CAST);
                    Refusal.due(c, "CAST ahead of INDEX", Scenes::shop, y -> y.item(of, as, 36, 5), CAST);
                }
            }
        }
        c.says(s, "INDEX");
        int[] lengths = {6, 12, 7};
        for (int sheet = 0; sheet <= 2; sheet++) {
            for (int i : new int[] {-1, lengths[sheet], lengths[sheet] + 1, 36, 37, MIN, MAX}) {
                int of = sheet;
                Refusal.due(c, "item " + i + " of " + lengths[sheet], Scenes::shop, y -> y.item(of, of, i, 5), INDEX);
            }
            c.due("the last", Scenes.shop().item(sheet, sheet, lengths[sheet] - 1, 5), 1);
        }
        Refusal.due(c, "item 0 of none", () -> row(1), y -> y.item(0, 1, 0, 5), INDEX);
        c.allSaid(s);
    }

    private static void lowestBits(Check c, Section s) {
        c.says(s, "its lowest bits: 1");
        int[] around = {256, 65536, 0};
        for (int lane = 0; lane <= 2; lane++) {
            for (int night : new int[] {100, 100 + around[lane], 100 - around[lane], 100 + 3 * around[lane]}) {
                GownLet x = row(lane, 10, 0, night, 0, 0, -1);
                c.due(night + " in lane " + lane, x.books(0, lane, 0, 1), 1);
                c.due("is 100", x.asOf(0, 1, 100, 100), 1);
            }
            for (int none : new int[] {-1, around[lane] - 1, MAX, 2 * around[lane] - 1}) {
                c.due("PARTY " + none + " in lane " + lane, row(lane, 10, 0, 100, 0, 0, none).books(0, lane, 0, 1), lane == 2 && none == MAX ? NOT : 1);
            }
            c.due("MIN is 0 but in ints", row(lane, 10, MIN, 100, 0, 0, -1).books(0, lane, 0, 1), lane == 2 ? NOT : 1);
        }
        c.due("as an int it keeps all", row(2, 10, 256, 100, 0, 0, -1).books(0, 2, 0, 1), NOT);
        c.due("as an int it keeps all", row(2, 10, 65536, 100, 0, 0, -1).books(0, 2, 0, 1), NOT);
        c.due("as a short it keeps 256", row(1, 10, 256, 100, 0, 0, -1).books(0, 1, 0, 1), NOT);
        c.due("byte 128 is below 0", row(0, 10, 0, 100, 0, 128, -1).books(0, 0, 0, 1), NOT);
        c.due("byte 255 is -1", row(0, 10, 0, 100, 0, 0, 255).books(0, 0, 0, 1), 1);
        c.due("byte 254 is -2", row(0, 10, 0, 100, 0, 0, 254).books(0, 0, 0, 1), NOT);
        c.due("short 32768 is below 0", row(1, 10, 0, 100, 0, 32768, -1).books(0, 1, 0, 1), NOT);
        c.due("short 65535 is -1", row(1, 10, 0, 100, 0, 0, 65535).books(0, 1, 0, 1), 1);
        c.due("short 65534 is -2", row(1, 10, 0, 100, 0, 0, 65534).books(0, 1, 0, 1), NOT);
    }

    private static int[] repeated(int n) {
        int[] items = new int[6 * n];
        for (int k = 0; k < n; k++) {
            System.arraycopy(new int[] {10, 0, 100 + k, 0, 5, -1}, 0, items, 6 * k, 6);
        }
        return items;
    }

    private static void books(Check c) {
        Section s = Section.promise(36);
        c.says(s, "n BOOKINGS (0 .. 6) from a SHEET");
        for (int n = 0; n <= 6; n++) {
            c.due(n + " of six", row(1, repeated(6)).books(0, 1, 0, n), n);
            c.due(n + " of " + n, row(1, repeated(n)).books(0, 1, 0, n), n);
        }
        c.says(s, "taken as a row of a LANE, from an item on");
        for (int from = 0; from <= 30; from++) {
            GownLet x = row(2, new int[36]);
            Scenes.fill(x, 0, 2, from, 10, 0, 123, 0, 5, -1);
            c.due("from " + from, x.books(0, 2, from, 1), 1);
            c.due("its NIGHT", x.asOf(5, 1, 123, 123), 1);
        }
        c.says(s, "come: SIZE, wants, NIGHT, TOWN, DAY made, PARTY of each");
        GownLet x = row(1, 12, 2, 300, 3, 7, 4, 12, 0, 310, 4, 9, -1);
        x.suit(0, 12, 0, 3, 100, 9);
        x.gown(0, 12, 0, 4, 100, 9);
        c.due("both", x.books(0, 1, 0, 2), 2);
        c.due("wants a SUIT of its SIZE", x.give(0), 0);
        c.due("wants a GOWN of its SIZE", x.give(1), 1);
        c.due("NIGHT and TOWN", x.away(0, 0, 1), 302);
        c.due("NIGHT and TOWN", x.away(0, 1, 1), 313);
        c.due("DAY made", x.asOf(6, 0, 0, 0), 0);
        c.due("DAY made", x.asOf(7, 0, 0, 0), 1);
        c.due("DAY made", x.asOf(8, 0, 0, 0), 1);
        c.due("DAY made", x.asOf(9, 0, 0, 0), 2);
        c.due("PARTY", x.match(4, 2), 1);
        c.due("no PARTY", x.match(0, 2), NONE);
        for (int[] six : new int[][] {LEAST, MOST}) {
            c.due("the least and the most", row(1, six).books(0, 1, 0, 1), 1);
        }
        c.says(s, ": how many there are");
        GownLet y = Scenes.shop();
        c.due("none more", y.books(Scenes.SHORTS, 1, 0, 0), 9);
        c.due("two more", y.books(Scenes.SHORTS, 1, 0, 2), 11);
        c.due("the row stays", y.books(Scenes.SHORTS, 1, 0, 2), 13);
        c.due("one more", y.books(Scenes.INTS, 2, 1, 1), 14);
        booksRefused(c, s);
        c.allSaid(s);
    }

    private static void booksRefused(Check c, Section s) {
        c.says(s, "BAD");
        Refusal.bounds(c, "books", Scenes::shop, BAD, new int[] {1, 1, 1}, new int[][] {{0, 3}, {0, 2}, {0, 6}},
                (y, n) -> y.books(n[0], n[1], 0, n[2]));
        Refusal.due(c, "BAD ahead of NULL", Scenes::shop, y -> y.books(Scenes.NOTHING, 0, 0, 7), BAD);
        Refusal.due(c, "BAD ahead of NULL", Scenes::shop, y -> y.books(Scenes.NOTHING, 3, 0, 1), BAD);
        Refusal.due(c, "BAD ahead of CAST", Scenes::shop, y -> y.books(Scenes.SHORTS, 0, 0, -1), BAD);
        Refusal.due(c, "BAD ahead of INDEX", Scenes::shop, y -> y.books(Scenes.SHORTS, 1, -1, 7), BAD);
        Refusal.due(c, "BAD ahead of NOT", Scenes::shop, y -> y.books(Scenes.INTS, 2, 0, -1), BAD);
        Refusal.due(c, "BAD ahead of FULL", Scenes::fullBookings, y -> y.books(Scenes.SHORTS, 1, 0, 7), BAD);
        c.says(s, "NULL");
        for (int lane = 0; lane <= 2; lane++) {
            for (int n = 0; n <= 6; n++) {
                int of = lane;
                int many = n;
                Refusal.due(c, "nothing, " + n, Scenes::shop, y -> y.books(Scenes.NOTHING, of, 0, many), NULL);
                Refusal.due(c, "NULL ahead of INDEX, " + n, Scenes::shop, y -> y.books(Scenes.NOTHING, of, -1, many), NULL);
            }
            int of = lane;
            Refusal.due(c, "NULL ahead of FULL", Scenes::fullBookings, y -> y.books(Scenes.NOTHING, of, 0, 1), NULL);
        }
        GownLet dropped = Scenes.shop();
        dropped.drop(Scenes.SHORTS);
        c.due("NULL ahead of CAST", dropped.books(Scenes.SHORTS, 0, 0, 1), NULL);
        c.says(s, "CAST");
        for (int sheet = 0; sheet <= 2; sheet++) {
            for (int lane = 0; lane <= 2; lane++) {
                int of = sheet;
                int as = lane;
                if (sheet != lane) {
                    Refusal.due(c, "lane " + sheet + " as " + lane, Scenes::shop, y -> y.books(of, as, 0, 1), CAST);
                    Refusal.due(c, "none of them", Scenes::shop, y -> y.books(of, as, 0, 0), CAST);
                    Refusal.due(c, "CAST ahead of INDEX", Scenes::shop, y -> y.books(of, as, -1, 1), CAST);
                    Refusal.due(c, "CAST ahead of INDEX", Scenes::shop, y -> y.books(of, as, 0, 6), CAST);
                    Refusal.due(c, "CAST ahead of FULL", Scenes::fullBookings, y -> y.books(of, as, 0, 1), CAST);
                }
            }
        }
        indexRefused(c, s);
        c.says(s, "NOT: one is not as told");
        for (int k = 0; k < 6; k++) {
            for (int wrong : new int[] {LEAST[k] - 1, MOST[k] + 1, MIN, MAX}) {
                for (int place = 0; place < 3; place++) {
                    int at = 6 * place + k;
                    Refusal.due(c, "item " + at + " is " + wrong, () -> three(at, wrong), y -> y.books(0, 2, 0, 3), NOT);
                }
            }
        }
        GownLet behind = three(12, 0);
        c.due("what is not taken is not looked at", behind.books(0, 2, 0, 2), 2);
        Refusal.due(c, "a NIGHT 10, as read from a wrong item", Scenes::shop, y -> y.books(Scenes.INTS, 2, 0, 1), NOT);
        Refusal.due(c, "NOT ahead of FULL", Scenes::fullBookings, y -> y.books(Scenes.INTS, 2, 0, 1), NOT);
        fullRefused(c, s);
    }

    private static GownLet three(int at, int wrong) {
        GownLet x = row(2, repeated(3));
        x.item(0, 2, at, wrong);
        return x;
    }

    private static void indexRefused(Check c, Section s) {
        c.says(s, "INDEX");
        for (int n = 1; n <= 6; n++) {
            for (int length = 0; length <= 36; length++) {
                GownLet x = new GownLet();
                x.sheet(0, 1, length);
                boolean isThere = 6 * n <= length;
                c.due(n + " of " + length, x.books(0, 1, 0, n), isThere ? NOT : INDEX);
                c.due(n + " from the last that there can be", x.books(0, 1, length - 6 * n, n), isThere ? NOT : INDEX);
                c.due(n + " from the next", x.books(0, 1, length - 6 * n + 1, n), INDEX);
            }
        }
        for (int from : new int[] {-1, -6, 7, 11, 12, 13, 36, MAX, MAX - 5, MAX - 35, MIN, MIN + 6}) {
            for (int n : new int[] {1, 6}) {
                Refusal.due(c, n + " from " + from, Scenes::shop, y -> y.books(Scenes.SHORTS, 1, from, n), INDEX);
                Refusal.due(c, "INDEX ahead of FULL", Scenes::fullBookings, y -> y.books(Scenes.SHORTS, 1, from, n), INDEX);
            }
        }
        for (int from : new int[] {-1, 13, MAX, MIN}) {
            Refusal.due(c, "none from " + from, Scenes::shop, y -> y.books(Scenes.SHORTS, 1, from, 0), INDEX);
        }
        for (int from : new int[] {0, 11, 12}) {
            c.due("none from " + from, Scenes.shop().books(Scenes.SHORTS, 1, from, 0), 9);
        }
        Refusal.due(c, "INDEX ahead of NOT", Scenes::shop, y -> y.books(Scenes.INTS, 2, 0, 2), INDEX);
        c.due("none of a row of none", row(0).books(0, 0, 0, 0), 0);
        c.due("one of a row of none", row(0).books(0, 0, 0, 1), INDEX);
    }

    private static void fullRefused(Check c, Section s) {
        c.says(s, "FULL");
        Refusal.due(c, "two, but one is left", Scenes::oneBookingLeft, y -> y.books(Scenes.SHORTS, 1, 0, 2), FULL);
        c.due("one", Scenes.oneBookingLeft().books(Scenes.SHORTS, 1, 0, 1), 30);
        Refusal.due(c, "one, but none is left", Scenes::fullBookings, y -> y.books(Scenes.SHORTS, 1, 0, 1), FULL);
        c.due("none", Scenes.fullBookings().books(Scenes.SHORTS, 1, 0, 0), 30);
        for (int before = 0; before <= 6; before++) {
            GownLet x = row(1, repeated(6));
            for (int k = 0; k < 4; k++) {
                x.books(0, 1, 0, 6);
            }
            c.due("24 and " + before, x.books(0, 1, 0, before), 24 + before);
            for (int n = 0; n <= 6; n++) {
                if (before + n > 6) {
                    c.due("and " + n, x.books(0, 1, 0, n), FULL);
                }
            }
            c.due("they are", x.count(4), 24 + before);
            c.due("and what is left", x.books(0, 1, 0, 6 - before), 30);
        }
    }
}
