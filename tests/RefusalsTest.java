import java.util.ArrayList;
import java.util.List;
import java.util.Random;
import java.util.function.Supplier;
import java.util.function.ToIntFunction;

/** What the document says of all refusals, ahead of part 1, and of 512 calls: each sentence by all calls. */
final class RefusalsTest {
    private static final int BAD = GownLet.BAD, NOT = GownLet.NOT, FULL = GownLet.FULL, NONE = GownLet.NONE;
    private static final int NULL = GownLet.NULL, CAST = GownLet.CAST, INDEX = GownLet.INDEX, SIZE = GownLet.SIZE;
    private static final int MIN = Integer.MIN_VALUE, MAX = Integer.MAX_VALUE;
    private static final int RUNS = 250;

    private static final class Refused {
        final String name;
        final ToIntFunction<GownLet> call;
        final int due;

        Refused(String name, int due, ToIntFunction<GownLet> call) {
            this.name = name;
            this.call = call;
            this.due = due;
        }
    }

    public static void main(String[] args) {
        Check c = new Check();
        Section s = Section.refusals();
        kinds(c, s);
        order(c, s);
        changesNothing(c, s);
        c.says(s, "Divisions are cut toward 0");
        divisions(c);
        c.allSaid(s);
        calls(c);
        c.end();
    }

    private static void kinds(Check c, Section s) {
        c.says(s, "Refusals are answers");
        for (Refused one : all()) {
            c.due(one.name, one.call.applyAsInt(Scenes.shop()), one.due);
        }
        c.says(s, "BAD -1 (a number is not as told, or names nothing)");
        c.due("BAD", GownLet.BAD, -1);
        for (int piece : new int[] {-1, Scenes.PIECES, 23, 24, MIN, MAX}) {
            Refusal.due(c, "names no PIECE", Scenes::shop, x -> x.told(piece, 0), BAD);
        }
        for (int booking : new int[] {-1, Scenes.BOOKINGS, 29, 30, MIN, MAX}) {
            Refusal.due(c, "names no BOOKING", Scenes::shop, x -> x.has(booking), BAD);
        }
        Refusal.due(c, "a number is not as told", Scenes::shop, x -> x.book(41, 0, 100, 0, 0, -1), BAD);
        c.says(s, "NOT -2 (as told)");
        c.due("NOT", GownLet.NOT, -2);
        Refusal.due(c, "as told", Scenes::shop, x -> x.mend(Scenes.HAD), NOT);
        c.says(s, "FULL -3");
        c.due("FULL", GownLet.FULL, -3);
        Refusal.due(c, "60 bytes", Scenes::fullTape, x -> x.type(' ', 1), FULL);
        Refusal.due(c, "24 PIECES", Scenes::fullPieces, x -> x.longGown(0, 10, 0, 0, 1, 1), FULL);
        Refusal.due(c, "20 DOUBLES", Scenes::fullDoubles, x -> x.same(0, 10, 5, 10), FULL);
        Refusal.due(c, "30 BOOKINGS", Scenes::fullBookings, x -> x.book(10, 0, 100, 0, 0, -1), FULL);
        c.says(s, "NONE -4 (as told)");
        c.due("NONE", GownLet.NONE, -4);
        Refusal.due(c, "as told", Scenes::shop, x -> x.has(Scenes.CANNOT), NONE);
        c.says(s, "CAST -12 (a piece of another KIND; of SHEETS a LANE)");
        c.due("CAST", GownLet.CAST, -12);
        Refusal.due(c, "a SUIT", Scenes::shop, x -> x.hem(Scenes.SUIT, 1), CAST);
        Refusal.due(c, "a LANE", Scenes::shop, x -> x.item(Scenes.BYTES, 1, 0, 0), CAST);
        c.says(s, "; what the machine finds: NULL -11, INDEX -13, SIZE -14");
        c.due("NULL", GownLet.NULL, -11);
        c.due("INDEX", GownLet.INDEX, -13);
        c.due("SIZE", GownLet.SIZE, -14);
        Refusal.due(c, "nothing", Scenes::shop, x -> x.drop(Scenes.NOTHING), NULL);
        Refusal.due(c, "no item", Scenes::shop, x -> x.item(Scenes.BYTES, 0, 6, 0), INDEX);
        Refusal.due(c, "no length", Scenes::shop, x -> x.sheet(Scenes.NOTHING, 0, -1), SIZE);
    }

    /** Calls for which several refusals hold; the one that is due. */
    private static void order(Check c, Section s) {
        c.says(s, "of several the first that a call names");
        Refusal.due(c, "type: BAD, FULL", Scenes::fullTape, x -> x.type(31, 1), BAD);
        Refusal.due(c, "gown: BAD, FULL", Scenes::fullPieces, x -> x.gown(0, 10, 0, 0, 0, 1), BAD);
        Refusal.due(c, "longGown: BAD, FULL", Scenes::fullPieces, x -> x.longGown(0, 10, 0, 0, 1, 0), BAD);
        Refusal.due(c, "suit: BAD, FULL", Scenes::fullPieces, x -> x.suit(6, 10, 0, 0, 1, 1), BAD);
        Refusal.due(c, "hem: BAD, CAST", Scenes::shop, x -> x.hem(Scenes.SUIT, 4), BAD);
        Refusal.due(c, "hem: BAD, NOT", Scenes::shop, x -> x.hem(Scenes.IS_OUT, 4), BAD);
        Refusal.due(c, "same: BAD, FULL", Scenes::fullDoubles, x -> x.same(2, 10, 2, 10), BAD);
        Refusal.due(c, "book: BAD, FULL", Scenes::fullBookings, x -> x.book(10, 0, 19, 0, 0, -1), BAD);
        Refusal.due(c, "off: BAD, NOT", Scenes::shop, x -> x.off(Scenes.OFF, 7), BAD);
        Refusal.due(c, "give: NOT, NONE", RefusalsTest::noneAndOff, x -> x.give(Scenes.CANNOT), NOT);
        Refusal.due(c, "tear: BAD, NOT", Scenes::shop, x -> x.tear(Scenes.TORN, 400), BAD);
        Refusal.due(c, "chain: NOT, NONE", RefusalsTest::noneAndOff, x -> x.chain(Scenes.CANNOT), NOT);
        Refusal.due(c, "link: BAD, NOT", Scenes::shop, x -> x.link(Scenes.OFF, 0, 2), BAD);
        Refusal.due(c, "link: BAD, NONE", Scenes::shop, x -> x.link(Scenes.CANNOT, -1, 0), BAD);
        Refusal.due(c, "link: NOT, NONE", RefusalsTest::noneAndOff, x -> x.link(Scenes.CANNOT, 0, 0), NOT);
        Refusal.due(c, "swap: NOT, NONE", RefusalsTest::noneAndOff, x -> x.swap(Scenes.CANNOT), NOT);
        Refusal.due(c, "match: BAD, NONE", Scenes::shop, x -> x.match(4, 3), BAD);
        Refusal.due(c, "out: BAD, NOT", Scenes::shop, x -> x.out(Scenes.CANNOT, 4096), BAD);
        Refusal.due(c, "home: BAD, NOT", Scenes::shop, x -> x.home(Scenes.HOME, 400, 0), -1000001);
        Refusal.due(c, "sheet: BAD, SIZE", Scenes::shop, x -> x.sheet(4, 0, -1), BAD);
        Refusal.due(c, "books: INDEX, NOT, FULL", Scenes::fullBookings, x -> x.books(Scenes.INTS, 2, 0, 2), INDEX);
        Refusal.due(c, "books: NOT, FULL", Scenes::fullBookings, x -> x.books(Scenes.INTS, 2, 0, 1), NOT);
        c.says(s, "(NULL, CAST, INDEX, SIZE in this order, behind BAD)");
        Refusal.due(c, "item: BAD, NULL", Scenes::shop, x -> x.item(Scenes.NOTHING, 3, -1, 0), BAD);
        Refusal.due(c, "item: BAD, INDEX", Scenes::shop, x -> x.item(Scenes.BYTES, -1, -1, 0), BAD);
        Refusal.due(c, "item: NULL, INDEX", Scenes::shop, x -> x.item(Scenes.NOTHING, 0, -1, 0), NULL);
        Refusal.due(c, "item: CAST, INDEX", Scenes::shop, x -> x.item(Scenes.BYTES, 2, -1, 0), CAST);
        Refusal.due(c, "books: BAD, NULL", Scenes::shop, x -> x.books(Scenes.NOTHING, 0, -1, 7), BAD);
        Refusal.due(c, "books: BAD, CAST", Scenes::shop, x -> x.books(Scenes.BYTES, 1, -1, -1), BAD);
        Refusal.due(c, "books: BAD, INDEX", Scenes::shop, x -> x.books(Scenes.BYTES, 0, -1, 7), BAD);
        Refusal.due(c, "books: NULL, INDEX, FULL", Scenes::fullBookings, x -> x.books(Scenes.NOTHING, 0, -1, 1), NULL);
        Refusal.due(c, "books: CAST, INDEX, FULL", Scenes::fullBookings, x -> x.books(Scenes.BYTES, 1, -1, 1), CAST);
        Refusal.due(c, "sheet: BAD, SIZE", Scenes::shop, x -> x.sheet(0, 3, MIN), BAD);
    }

    private static GownLet noneAndOff() {
        GownLet x = Scenes.shop();
        x.off(Scenes.CANNOT, 20);
        return x;
    }

    /** Of each call each of its refusals, in the shop. */
    private static List<Refused> all() {
        List<Refused> r = new ArrayList<>();
        r.add(new Refused("type", BAD, x -> x.type('h', 0)));
        r.add(new Refused("type", BAD, x -> x.type(Check.packed("12345678") & ~255L, 8)));
        r.add(new Refused("term", BAD, x -> x.term('x')));
        r.add(new Refused("post", BAD, x -> x.post(0, 0, 9)));
        r.add(new Refused("post", BAD, x -> x.post(0, 1, 10)));
        r.add(new Refused("gown", BAD, x -> x.gown(0, 41, 0, 0, 1, 1)));
        r.add(new Refused("longGown", BAD, x -> x.longGown(0, 10, 10, 0, 1, 1)));
        r.add(new Refused("suit", BAD, x -> x.suit(0, 10, 0, 9, 1, 1)));
        r.add(new Refused("hem", BAD, x -> x.hem(Scenes.WAS_OUT, 4)));
        r.add(new Refused("hem", CAST, x -> x.hem(Scenes.HAD, 1)));
        r.add(new Refused("hem", NOT, x -> x.hem(Scenes.IS_OUT, 1)));
        r.add(new Refused("told", BAD, x -> x.told(Scenes.PIECES, 0)));
        r.add(new Refused("same", BAD, x -> x.same(1, 10, 1, 11)));
        r.add(new Refused("lie", -101, x -> x.lie(6, 0)));
        r.add(new Refused("fits", BAD, x -> x.fits(0, 0, 0)));
        r.add(new Refused("book", BAD, x -> x.book(10, 3, 100, 0, 0, -1)));
        r.add(new Refused("off", BAD, x -> x.off(Scenes.HAS, 4)));
        r.add(new Refused("off", NOT, x -> x.off(Scenes.OUT, 399)));
        r.add(new Refused("give", BAD, x -> x.give(-1)));
        r.add(new Refused("give", NOT, x -> x.give(Scenes.OFF)));
        r.add(new Refused("give", NONE, x -> x.give(Scenes.CHAINED)));
        r.add(new Refused("has", BAD, x -> x.has(Scenes.BOOKINGS)));
        r.add(new Refused("has", NONE, x -> x.has(Scenes.CAN_BE)));
        r.add(new Refused("free", BAD, x -> x.free(0, Scenes.BOOKINGS)));
        r.add(new Refused("away", BAD, x -> x.away(0, 0, 2)));
        r.add(new Refused("tear", BAD, x -> x.tear(Scenes.HAD, -1)));
        r.add(new Refused("tear", NOT, x -> x.tear(Scenes.TORN, 151)));
        r.add(new Refused("mend", BAD, x -> x.mend(Scenes.PIECES)));
        r.add(new Refused("mend", NOT, x -> x.mend(Scenes.HAD)));
        r.add(new Refused("chain", BAD, x -> x.chain(Scenes.BOOKINGS)));
        r.add(new Refused("chain", NOT, x -> x.chain(Scenes.HAS)));
        r.add(new Refused("chain", NONE, x -> x.chain(Scenes.FREED)));
        r.add(new Refused("link", BAD, x -> x.link(Scenes.CHAINED, 2, 0)));
        r.add(new Refused("link", NOT, x -> x.link(Scenes.OUT, 0, 0)));
        r.add(new Refused("link", NONE, x -> x.link(Scenes.CANNOT, 0, 0)));
        r.add(new Refused("swap", BAD, x -> x.swap(-1)));
        r.add(new Refused("swap", NOT, x -> x.swap(Scenes.HOLDER)));
        r.add(new Refused("swap", NONE, x -> x.swap(Scenes.CANNOT)));
        r.add(new Refused("match", BAD, x -> x.match(-1, 0)));
        r.add(new Refused("match", NONE, x -> x.match(3, 0)));
        r.add(new Refused("asOf", BAD, x -> x.asOf(400, 0, 0, 0)));
        r.add(new Refused("out", BAD, x -> x.out(Scenes.HAS, 4096)));
        r.add(new Refused("out", NOT, x -> x.out(Scenes.HOME, 0)));
        r.add(new Refused("home", -1000001, x -> x.home(Scenes.OUT, 98, 0)));
        r.add(new Refused("home", -1000002, x -> x.home(Scenes.HAS, 100, 0)));
        r.add(new Refused("about", BAD, x -> x.about(Scenes.OUT, 2)));
        r.add(new Refused("retire", BAD, x -> x.retire(Scenes.PIECES)));
        r.add(new Refused("retire", NOT, x -> x.retire(Scenes.RETIRED)));
        r.add(new Refused("count", BAD, x -> x.count(8)));
        r.add(new Refused("sheet", BAD, x -> x.sheet(Scenes.BYTES, 0, 37)));
        r.add(new Refused("sheet", SIZE, x -> x.sheet(Scenes.BYTES, 1, -1)));
        r.add(new Refused("drop", BAD, x -> x.drop(4)));
        r.add(new Refused("drop", NULL, x -> x.drop(Scenes.NOTHING)));
        r.add(new Refused("item", BAD, x -> x.item(Scenes.BYTES, 3, 0, 1)));
        r.add(new Refused("item", NULL, x -> x.item(Scenes.NOTHING, 0, 0, 1)));
        r.add(new Refused("item", CAST, x -> x.item(Scenes.BYTES, 1, 0, 1)));
        r.add(new Refused("item", INDEX, x -> x.item(Scenes.BYTES, 0, 6, 1)));
        r.add(new Refused("books", BAD, x -> x.books(Scenes.SHORTS, 1, 0, 7)));
        r.add(new Refused("books", NULL, x -> x.books(Scenes.NOTHING, 1, 0, 1)));
        r.add(new Refused("books", CAST, x -> x.books(Scenes.SHORTS, 2, 0, 1)));
        r.add(new Refused("books", INDEX, x -> x.books(Scenes.SHORTS, 1, 0, 3)));
        r.add(new Refused("books", NOT, x -> x.books(Scenes.INTS, 2, 0, 1)));
        return r;
    }

    private static void changesNothing(Check c, Section s) {
        c.says(s, "What is refused changes nothing");
        for (Refused one : all()) {
            Refusal.due(c, one.name, Scenes::shop, one.call, one.due);
        }
        Refusal.alike(c, "all of them, one behind the other", Scenes::shop, () -> {
            GownLet x = Scenes.shop();
            for (Refused one : all()) {
                c.due(one.name, one.call.applyAsInt(x), one.due);
            }
            return x;
        });
        for (int run = 0; run < RUNS && !c.isWrong(); run++) {
            List<Call> calls = Call.some(new Random(run), run % 3);
            Supplier<GownLet> asked = () -> Call.made(calls, false);
            Supplier<GownLet> spared = () -> Call.made(calls, true);
            asked.get();
            Refusal.alike(c, "run " + run + " without what was refused", asked, spared);
        }
    }

    private static void divisions(Check c) {
        for (int price = 1; price <= 200; price++) {
            GownLet x = new GownLet();
            x.gown(0, 10, 0, 0, price, 7);
            x.book(10, 0, 100, 0, 0, -1);
            x.give(0);
            c.due("30 hundredths of " + price, x.out(0, 0), (price * 30 - price * 30 % 100) / 100);
            x.home(0, 100, 0);
            c.due("6 of 7 of " + price, x.told(0, 7), (price * 6 - price * 6 % 7) / 7);
        }
    }

    /** The 512th call is answered as the first. */
    private static void calls(Check c) {
        Section s = Section.face();
        c.says(s, "for at most 512 calls after it has been made");
        GownLet x = new GownLet();
        c.due("call 1", x.gown(0, 10, 0, 0, 100, 99), 0);
        for (int call = 2; call <= 511; call++) {
            c.due("call " + call, x.post(0, 1, call % 10), call == 2 ? 1 : (call - 1) % 10);
        }
        c.due("call 512", x.post(1, 0, 0), 1);
        GownLet y = new GownLet();
        y.gown(0, 10, 3, 0, 100, 9);
        y.gown(0, 12, 3, 0, 100, 9);
        y.book(11, 0, 100, 0, 0, 2);
        y.give(0);
        y.book(9, 0, 100, 0, 0, 2);
        for (int call = 6; call <= 511; call += 2) {
            c.due("call " + call, y.link(1, 1, 1), 1);
            c.due("call " + (call + 1), y.match(2, 1), 1);
        }
        c.due("call 512", y.swap(1), 2);
    }
}
