/**
 * Dresses for a night: gowns and suits let by the weekend from shops in nine towns.
 * The document's promises 1 to 36 tell what each public method answers.
 */
public final class GownLet {
    public static final int BAD = -1, NOT = -2, FULL = -3, NONE = -4, NULL = -11, CAST = -12, INDEX = -13, SIZE = -14;

    private static final int LIE_REFUSALS = -100, HOME_REFUSALS = -1000000;
    private static final int LAST_TOWN = 8, LAST_DAY = 399, LAST_PARTY = 4;
    private static final int LAST_LABEL = 40, LAST_LOT = 9, LAST_WANTS = 2;
    private static final int FIRST_NIGHT = 20, LAST_NIGHT = 380;
    private static final int LAST_LOOK = 4095, NO_LOOK = -1;
    private static final int LAST_SHEET = 3, LAST_LANE = 2;
    private static final int MOST_BOOKS = 6, BOOK_ITEMS = 6;
    // What is counted.
    private static final int PIECES = 0, RETIRED = 1, TORN = 2, DOUBLES = 3;
    private static final int BOOKINGS = 4, CALLED_OFF = 5, SERVED = 6, NIGHTS_WORN = 7;

    private final Tape tape = new Tape();
    private final House house = new House();
    private final Chain chain = new Chain(house);
    private final Sheet[] sheets = {new Sheet(), new Sheet(), new Sheet(), new Sheet()};

    public GownLet() {
    }

    // ---- 1 terms

    public int type(long w, int n) {
        if (!isIn(n, 1, 8)) {
            return BAD;
        }
        for (int i = n - 1; i >= 0; i--) {
            if (!isIn(byteOf(w, i), 32, 126)) {
                return BAD;
            }
        }
        if (!tape.hasRoomFor(n)) {
            return FULL;
        }
        for (int i = n - 1; i >= 0; i--) {
            tape.append(byteOf(w, i));
        }
        return tape.length;
    }

    public int terms() {
        int answer = house.terms.read(tape);
        tape.clear();
        return answer;
    }

    public int term(int letter) {
        int place = Terms.placeOf(letter);
        return place < 0 ? BAD : house.terms.at(place);
    }

    public int post(int a, int b, int days) {
        if (!isTown(a) || !isTown(b) || a == b || !isIn(days, 0, 9)) {
            return BAD;
        }
        int before = house.postBetween(a, b);
        house.setPost(a, b, days);
        return before;
    }

    // ---- 2 pieces

    public int gown(int maker, int label, int lot, int town, int price, int life) {
        return addPiece(Piece.GOWN, maker, label, lot, town, price, life);
    }

    public int longGown(int maker, int label, int lot, int town, int price, int life) {
        return addPiece(Piece.LONG_GOWN, maker, label, lot, town, price, life);
    }

    public int suit(int maker, int label, int lot, int town, int price, int life) {
        return addPiece(Piece.SUIT, maker, label, lot, town, price, life);
    }

    public int hem(int piece, int by) {
        Piece named = house.pieceAt(piece);
        if (named == null || !isIn(by, 1, 3)) {
            return BAD;
        }
        if (named.kind != Piece.LONG_GOWN) {
            return CAST;
        }
        if (named.hem != 0) {
            return NOT;
        }
        named.hem = by;
        return 1;
    }

    public int told(int piece, int what) {
        Piece named = house.pieceAt(piece);
        if (named == null || !isIn(what, 0, 9)) {
            return BAD;
        }
        return named.detail(what);
    }

    public int same(int a, int x, int b, int y) {
        if (!isMaker(a) || !isMaker(b) || a == b || !isLabel(x) || !isLabel(y)) {
            return BAD;
        }
        if (house.lies.doubles >= Lies.MOST_DOUBLES) {
            return FULL;
        }
        house.lies.learn(a, x, b, y);
        return house.lies.doubles - 1;
    }

    public int lie(int maker, int which) {
        if (!isMaker(maker) || !isIn(which, 0, 1)) {
            return BAD + LIE_REFUSALS;
        }
        return which == 0 ? house.lies.low(maker) : house.lies.high(maker);
    }

    public int quarrel() {
        return house.lies.areAtOdds ? 1 : 0;
    }

    public int fits(int piece, int size, int wants) {
        Piece named = house.pieceAt(piece);
        if (named == null || !isLabel(size) || !isIn(wants, 0, LAST_WANTS)) {
            return BAD;
        }
        return house.fitOf(named, size, wants);
    }

    // ---- 3 bookings

    public int book(int size, int wants, int night, int town, int made, int party) {
        if (!isBookingAsTold(size, wants, night, town, made, party)) {
            return BAD;
        }
        if (!house.hasRoomForBookings(1)) {
            return FULL;
        }
        house.addBooking(size, wants, night, town, made, party);
        return house.bookingCount - 1;
    }

    public int off(int booking, int day) {
        Booking named = house.bookingAt(booking);
        if (named == null || !isDay(day) || day < named.made) {
            return BAD;
        }
        if (named.isCalledOff() || named.wentOut()) {
            return NOT;
        }
        named.calledOffOn = day;
        named.piece = null;
        return 1;
    }

    public int give(int booking) {
        Booking named = house.bookingAt(booking);
        if (named == null) {
            return BAD;
        }
        if (!named.waits()) {
            return NOT;
        }
        named.piece = house.bestFor(named, House.ANY_LOT);
        return named.pieceNumber();
    }

    public int has(int booking) {
        Booking named = house.bookingAt(booking);
        return named == null ? BAD : named.pieceNumber();
    }

    public int free(int piece, int booking) {
        Piece named = house.pieceAt(piece);
        Booking taker = house.bookingAt(booking);
        if (named == null || taker == null) {
            return BAD;
        }
        return house.isFree(named, taker) ? 1 : 0;
    }

    public int away(int piece, int booking, int which) {
        Piece named = house.pieceAt(piece);
        Booking taker = house.bookingAt(booking);
        if (named == null || taker == null || !isIn(which, 0, 1)) {
            return BAD;
        }
        return which == 0 ? house.firstAway(named, taker) : house.lastAway(named, taker);
    }

    public int tear(int piece, int day) {
        Piece named = house.pieceAt(piece);
        if (named == null || !isDay(day)) {
            return BAD;
        }
        if (named.isTornBy(day)) {
            return NOT;
        }
        named.tornFrom = day;
        return house.takeFromNights(named, day);
    }

    public int mend(int piece) {
        Piece named = house.pieceAt(piece);
        if (named == null) {
            return BAD;
        }
        if (!named.isTorn()) {
            return NOT;
        }
        named.tornFrom = NONE;
        return 1;
    }

    public int chain(int booking) {
        Booking named = house.bookingAt(booking);
        if (named == null) {
            return BAD;
        }
        return named.waits() ? chain.find(named) : NOT;
    }

    public int link(int booking, int i, int what) {
        if (i < 0 || !isIn(what, 0, 1)) {
            return BAD;
        }
        int length = chain(booking);
        if (length < 0) {
            return length;
        }
        // Only a CHAIN that is there can tell how far its places go, so this stands behind NOT and NONE.
        if (i >= length) {
            return BAD;
        }
        return what == 0 ? chain.bookingIn(i) : chain.pieceIn(i);
    }

    public int swap(int booking) {
        int length = chain(booking);
        if (length > 0) {
            chain.perform();
        }
        return length;
    }

    public int match(int party, int what) {
        if (!isIn(party, 0, LAST_PARTY) || !isIn(what, 0, 2)) {
            return BAD;
        }
        int members = house.membersOf(party);
        if (members == 0) {
            return NONE;
        }
        if (what == 2) {
            return members;
        }
        int bestLot = 0;
        int most = -1;
        for (int lot = 0; lot <= LAST_LOT; lot++) {
            int matched = house.matchedIn(party, lot);
            if (matched > most) {
                most = matched;
                bestLot = lot;
            }
        }
        return what == 0 ? bestLot : most;
    }

    public int asOf(int day, int what, int a, int b) {
        if (!isDay(day) || !isIn(what, 0, 1)) {
            return BAD;
        }
        return what == 0 ? house.knownOn(day, FIRST_NIGHT, LAST_NIGHT) : house.knownOn(day, a, b);
    }

    // ---- 4 out and home

    public int out(int booking, int look) {
        Booking named = house.bookingAt(booking);
        if (named == null || !isIn(look, 0, LAST_LOOK)) {
            return BAD;
        }
        if (named.piece == null || named.wentOut()) {
            return NOT;
        }
        named.goOut(look, house.depositOn(named.piece));
        return named.deposit;
    }

    public int home(int booking, int day, int look) {
        Booking named = house.bookingAt(booking);
        if (named == null || !isDay(day) || !isIn(look, NO_LOOK, LAST_LOOK)) {
            return BAD + HOME_REFUSALS;
        }
        Piece piece = named.piece;
        if (piece == null) {
            return NOT + HOME_REFUSALS;
        }
        if (day < house.firstAway(piece, named)) {
            return BAD + HOME_REFUSALS;
        }
        if (named.stage != Booking.OUT) {
            return NOT + HOME_REFUSALS;
        }
        named.comeHome(day, look);
        piece.worn++;
        return house.owedFor(named) - named.deposit;
    }

    public int about(int booking, int what) {
        Booking named = house.bookingAt(booking);
        if (named == null || !isIn(what, 0, 4)) {
            return BAD;
        }
        if (what >= 1 && !named.wentOut() || what >= 2 && named.stage != Booking.HOME) {
            return BAD;
        }
        switch (what) {
            case 0: return named.stage;
            case 1: return named.deposit;
            case 2: return house.daysLate(named);
            case 3: return house.harmOf(named);
            default: return house.owedFor(named);
        }
    }

    public int retire(int piece) {
        Piece named = house.pieceAt(piece);
        if (named == null) {
            return BAD;
        }
        if (named.isRetired()) {
            return NOT;
        }
        named.isToldRetired = true;
        return named.worth();
    }

    public int count(int what) {
        switch (what) {
            case PIECES: return house.pieceCount;
            case RETIRED:
            case TORN:
            case NIGHTS_WORN: return house.tallyPieces(what);
            case DOUBLES: return house.lies.doubles;
            case BOOKINGS: return house.bookingCount;
            case CALLED_OFF:
            case SERVED: return house.tallyBookings(what);
            default: return BAD;
        }
    }

    // ---- 5 sheets

    public int sheet(int sheet, int lane, int n) {
        if (!isSheet(sheet) || !isLane(lane) || n > Sheet.MOST_ITEMS) {
            return BAD;
        }
        if (n < 0) {
            return SIZE;
        }
        sheets[sheet].begin(lane, n);
        return n;
    }

    public int drop(int sheet) {
        if (!isSheet(sheet)) {
            return BAD;
        }
        Sheet named = sheets[sheet];
        if (!named.isThere) {
            return NULL;
        }
        named.isThere = false;
        return named.length;
    }

    public int item(int sheet, int lane, int i, int v) {
        if (!isSheet(sheet) || !isLane(lane)) {
            return BAD;
        }
        Sheet named = sheets[sheet];
        int refusal = named.refusalAs(lane);
        if (refusal != 0) {
            return refusal;
        }
        if (!named.hasItems(i, 1)) {
            return INDEX;
        }
        named.put(i, v);
        return 1;
    }

    public int books(int sheet, int lane, int from, int n) {
        if (!isSheet(sheet) || !isLane(lane) || !isIn(n, 0, MOST_BOOKS)) {
            return BAD;
        }
        Sheet named = sheets[sheet];
        int refusal = named.refusalAs(lane);
        if (refusal != 0) {
            return refusal;
        }
        if (!named.hasItems(from, n * BOOK_ITEMS)) {
            return INDEX;
        }
        for (int k = 0; k < n; k++) {
            if (!isBookingOnSheet(named, from + k * BOOK_ITEMS)) {
                return NOT;
            }
        }
        if (!house.hasRoomForBookings(n)) {
            return FULL;
        }
        for (int k = 0; k < n; k++) {
            addBookingOnSheet(named, from + k * BOOK_ITEMS);
        }
        return house.bookingCount;
    }

    // ---- what the calls share

    private static boolean isIn(int number, int least, int most) {
        return number >= least && number <= most;
    }

    private static boolean isTown(int number) {
        return isIn(number, 0, LAST_TOWN);
    }

    private static boolean isMaker(int number) {
        return isIn(number, 0, Lies.MAKERS - 1);
    }

    /** SIZES of bodies have the same range as LABELS. */
    private static boolean isLabel(int number) {
        return isIn(number, 1, LAST_LABEL);
    }

    private static boolean isDay(int number) {
        return isIn(number, 0, LAST_DAY);
    }

    private static boolean isSheet(int number) {
        return isIn(number, 0, LAST_SHEET);
    }

    private static boolean isLane(int number) {
        return isIn(number, 0, LAST_LANE);
    }

    private static int byteOf(long w, int fromLowest) {
        return (int) (w >>> (8 * fromLowest)) & 255;
    }

    private int addPiece(int kind, int maker, int label, int lot, int town, int price, int life) {
        if (!isMaker(maker) || !isLabel(label) || !isIn(lot, 0, LAST_LOT) || !isTown(town)
                || !isIn(price, 1, 9999) || !isIn(life, 1, 99)) {
            return BAD;
        }
        if (house.pieceCount >= House.MOST_PIECES) {
            return FULL;
        }
        return house.keep(new Piece(kind, maker, label, lot, town, price, life));
    }

    private static boolean isBookingAsTold(int size, int wants, int night, int town, int made, int party) {
        return isLabel(size) && isIn(wants, 0, LAST_WANTS) && isIn(night, FIRST_NIGHT, LAST_NIGHT)
                && isTown(town) && isDay(made) && isIn(party, -1, LAST_PARTY);
    }

    private static boolean isBookingOnSheet(Sheet sheet, int at) {
        return isBookingAsTold(sheet.get(at), sheet.get(at + 1), sheet.get(at + 2),
                sheet.get(at + 3), sheet.get(at + 4), sheet.get(at + 5));
    }

    private void addBookingOnSheet(Sheet sheet, int at) {
        house.addBooking(sheet.get(at), sheet.get(at + 1), sheet.get(at + 2),
                sheet.get(at + 3), sheet.get(at + 4), sheet.get(at + 5));
    }

    /** THE TAPE: the bytes typed since TERMS were last read. */
    private static final class Tape {
        private static final int MOST = 60;
        private static final int END = -1;

        private final byte[] bytes = new byte[MOST];
        private int length;

        boolean hasRoomFor(int n) {
            return n <= MOST - length;
        }

        void append(int sign) {
            if (length < MOST) {
                bytes[length] = (byte) sign;
                length++;
            }
        }

        void clear() {
            length = 0;
        }

        int signAt(int place) {
            return place >= 0 && place < length ? bytes[place] : END;
        }

        boolean isDigitAt(int place) {
            int sign = signAt(place);
            return sign >= '0' && sign <= '9';
        }

        int behindBlanks(int place) {
            int at = place;
            while (at < length && signAt(at) == ' ') {
                at++;
            }
            return at;
        }

        int behindDigits(int place) {
            int at = place;
            while (at < length && isDigitAt(at)) {
                at++;
            }
            return at;
        }

        /** The number that stands there; one above cap, however long, is cap + 1. */
        int numberIn(int from, int to, int cap) {
            int number = 0;
            for (int at = from; at < to; at++) {
                number = Math.min(cap + 1, number * 10 + signAt(at) - '0');
            }
            return number;
        }
    }

    /** TERMS: a number for each of eight letters, read from a text. */
    private static final class Terms {
        private static final int HOLD = 0, CLEAN = 1, LATE = 2, DEPOSIT = 3, EASE = 4, STAIN = 5, TEAR = 6, SWAPS = 7;
        private static final int LETTERS = 8;
        private static final int MOST_CLAUSES = 8;
        private static final int FAULT = -20;
        private static final char[] LETTER = {'h', 'c', 'l', 'd', 'e', 's', 't', 'w'};
        private static final int[] MOST = {9, 9, 999, 100, 9, 999, 999, 3};

        private final int[] now = {1, 2, 50, 30, 1, 200, 900, 3};
        // A text is read into these first, so that a fault in it leaves TERMS as they were.
        private final int[] coming = new int[LETTERS];

        static int placeOf(int letter) {
            for (int place = 0; place < LETTERS; place++) {
                if (LETTER[place] == letter) {
                    return place;
                }
            }
            return -1;
        }

        int at(int place) {
            return place >= 0 && place < LETTERS ? now[place] : 0;
        }

        /** Takes the tape as TERMS: how many CLAUSES it has, or its FAULT. */
        int read(Tape tape) {
            copy(now, coming);
            int at = -1;
            for (int clauses = 1; clauses <= MOST_CLAUSES; clauses++) {
                at = readClause(tape, at + 1);
                if (at < 0) {
                    return at;
                }
                if (at >= tape.length) {
                    copy(coming, now);
                    return clauses;
                }
                if (tape.signAt(at) != ';') {
                    return FAULT - at;
                }
            }
            // Here stands the ; of a ninth CLAUSE.
            return FAULT - at;
        }

        /** Reads a CLAUSE: the place of the sign behind it, or its FAULT. */
        private int readClause(Tape tape, int from) {
            int at = tape.behindBlanks(from);
            int place = placeOf(tape.signAt(at));
            if (place < 0) {
                return FAULT - at;
            }
            int first = tape.behindBlanks(at + 1);
            int end = tape.behindDigits(first);
            if (end == first) {
                return FAULT - first;
            }
            int number = tape.numberIn(first, end, MOST[place]);
            if (number > MOST[place]) {
                return FAULT - first;
            }
            coming[place] = number;
            return tape.behindBlanks(end);
        }

        private static void copy(int[] source, int[] target) {
            for (int place = 0; place < LETTERS; place++) {
                target[place] = source[place];
            }
        }
    }

    /** LIES of the MAKERS, as far as the DOUBLES tell them. */
    private static final class Lies {
        private static final int MAKERS = 6;
        private static final int MOST_LIE = 9;
        private static final int MOST_DOUBLES = 20;

        // span[a * MAKERS + b]: how much the LIE of b can be above that of a, at most.
        // MAKER 0 lies by 0, so what is above it, or below, is the LIE itself.
        private final int[] span = new int[MAKERS * MAKERS];
        private final int[] lows = new int[MAKERS];
        private final int[] highs = new int[MAKERS];
        private int doubles;
        private boolean areAtOdds;

        Lies() {
            for (int a = 0; a < MAKERS; a++) {
                for (int b = 0; b < MAKERS; b++) {
                    int ends = (a == 0 ? 0 : MOST_LIE) + (b == 0 ? 0 : MOST_LIE);
                    span[a * MAKERS + b] = a == b ? 0 : ends;
                }
            }
            readEnds();
        }

        void learn(int a, int x, int b, int y) {
            doubles++;
            // No DOUBLE is ever taken back, so a QUARREL stays.
            if (areAtOdds) {
                return;
            }
            tighten(a, b, 1 + x - y);
            tighten(b, a, 1 + y - x);
            close();
            readEnds();
        }

        int low(int maker) {
            return maker >= 0 && maker < MAKERS ? lows[maker] : 0;
        }

        int high(int maker) {
            return maker >= 0 && maker < MAKERS ? highs[maker] : 0;
        }

        private int spanOf(int a, int b) {
            int at = a * MAKERS + b;
            return at >= 0 && at < span.length ? span[at] : 0;
        }

        private void tighten(int a, int b, int most) {
            int at = a * MAKERS + b;
            if (at >= 0 && at < span.length && most < span[at]) {
                span[at] = most;
            }
        }

        /** Shortest ways between all MAKERS; one to itself that is below 0 can't be met by any LIES. */
        private void close() {
            for (int via = 0; via < MAKERS; via++) {
                for (int a = 0; a < MAKERS; a++) {
                    for (int b = 0; b < MAKERS; b++) {
                        tighten(a, b, spanOf(a, via) + spanOf(via, b));
                    }
                }
            }
            for (int a = 0; a < MAKERS; a++) {
                if (spanOf(a, a) < 0) {
                    areAtOdds = true;
                }
            }
        }

        private void readEnds() {
            for (int maker = 1; maker < MAKERS; maker++) {
                lows[maker] = areAtOdds ? -MOST_LIE : -spanOf(maker, 0);
                highs[maker] = areAtOdds ? MOST_LIE : spanOf(0, maker);
            }
        }
    }

    /** A GOWN, a LONG GOWN or a SUIT. */
    private static final class Piece {
        private static final int GOWN = 0, LONG_GOWN = 1, SUIT = 2;

        private final int kind;
        private final int maker;
        private final int label;
        private final int lot;
        private final int town;
        private final int price;
        private final int life;
        private int number;
        private int hem;
        private int worn;
        private int tornFrom = NONE;
        private boolean isToldRetired;

        Piece(int kind, int maker, int label, int lot, int town, int price, int life) {
            this.kind = kind;
            this.maker = maker;
            this.label = label;
            this.lot = lot;
            this.town = town;
            this.price = price;
            this.life = life;
        }

        boolean isWanted(int wants) {
            return kind == wants || wants == GOWN && kind == LONG_GOWN;
        }

        boolean isRetired() {
            return isToldRetired || worn >= life;
        }

        boolean isTorn() {
            return tornFrom != NONE;
        }

        boolean isTornBy(int day) {
            return isTorn() && tornFrom <= day;
        }

        boolean canBeWornOn(int night) {
            return !isRetired() && !isTornBy(night);
        }

        int worth() {
            return life < 1 ? 0 : price * Math.max(0, life - worn) / life;
        }

        /** What it adds to a count of all PIECES. */
        int tally(int what) {
            switch (what) {
                case RETIRED: return isRetired() ? 1 : 0;
                case TORN: return isTorn() ? 1 : 0;
                case NIGHTS_WORN: return worn;
                default: return 0;
            }
        }

        int detail(int what) {
            switch (what) {
                case 0: return kind;
                case 1: return maker;
                case 2: return label;
                case 3: return lot;
                case 4: return town;
                case 5: return price;
                case 6: return worn;
                case 7: return worth();
                case 8: return isRetired() ? 1 : 0;
                case 9: return tornFrom;
                default: return BAD;
            }
        }
    }

    /** A BOOKING: a body, a NIGHT, a TOWN, and what became of it. */
    private static final class Booking {
        private static final int NEITHER = 0, OUT = 1, HOME = 2;

        private final int number;
        private final int size;
        private final int wants;
        private final int night;
        private final int town;
        private final int made;
        private final int party;
        private int calledOffOn = NONE;
        private Piece piece;
        private int stage = NEITHER;
        private int deposit;
        private int lookOut;
        private int lookHome;
        private int homeOn;

        Booking(int number, int size, int wants, int night, int town, int made, int party) {
            this.number = number;
            this.size = size;
            this.wants = wants;
            this.night = night;
            this.town = town;
            this.made = made;
            this.party = party;
        }

        boolean isCalledOff() {
            return calledOffOn != NONE;
        }

        boolean wentOut() {
            return stage != NEITHER;
        }

        /** It has no PIECE, but is to have one. */
        boolean waits() {
            return piece == null && !isCalledOff();
        }

        int pieceNumber() {
            return piece == null ? NONE : piece.number;
        }

        boolean isKnownOn(int day) {
            return made <= day && (!isCalledOff() || calledOffOn > day);
        }

        /** What it adds to a count of all BOOKINGS. */
        int tally(int what) {
            switch (what) {
                case CALLED_OFF: return isCalledOff() ? 1 : 0;
                case SERVED: return piece != null ? 1 : 0;
                default: return 0;
            }
        }

        void goOut(int look, int paid) {
            stage = OUT;
            lookOut = look;
            // Kept, as it is paid now: TERMS that change later do not change it.
            deposit = paid;
        }

        void comeHome(int day, int look) {
            stage = HOME;
            homeOn = day;
            lookHome = look;
        }
    }

    /** All PIECES and BOOKINGS, and what TERMS, POST and LIES make of them. */
    private static final class House {
        private static final int MOST_PIECES = 24, MOST_BOOKINGS = 30;
        private static final int TOWNS = LAST_TOWN + 1;
        private static final int ANY_LOT = -1;
        private static final int NO_FIT = 0, MAY_FIT = 1, SURE_FIT = 2;
        private static final int NOBODY = -1, SEVERAL = -2;

        private final Terms terms = new Terms();
        private final Lies lies = new Lies();
        private final int[] post = new int[TOWNS * TOWNS];
        private final Piece[] pieces = new Piece[MOST_PIECES];
        private final Booking[] bookings = new Booking[MOST_BOOKINGS];
        private final boolean[] isTrial = new boolean[MOST_BOOKINGS];
        private int pieceCount;
        private int bookingCount;

        House() {
            for (int a = 0; a < TOWNS; a++) {
                for (int b = 0; b < TOWNS; b++) {
                    post[a * TOWNS + b] = a == b ? 0 : 1;
                }
            }
        }

        Piece pieceAt(int number) {
            return number >= 0 && number < pieceCount && number < MOST_PIECES ? pieces[number] : null;
        }

        Booking bookingAt(int number) {
            return number >= 0 && number < bookingCount && number < MOST_BOOKINGS ? bookings[number] : null;
        }

        int keep(Piece piece) {
            if (pieceCount >= MOST_PIECES) {
                return FULL;
            }
            piece.number = pieceCount;
            pieces[pieceCount] = piece;
            pieceCount++;
            return piece.number;
        }

        boolean hasRoomForBookings(int n) {
            return n <= MOST_BOOKINGS - bookingCount;
        }

        void addBooking(int size, int wants, int night, int town, int made, int party) {
            if (hasRoomForBookings(1)) {
                bookings[bookingCount] = new Booking(bookingCount, size, wants, night, town, made, party);
                bookingCount++;
            }
        }

        int postBetween(int a, int b) {
            int at = a * TOWNS + b;
            return at >= 0 && at < post.length ? post[at] : 0;
        }

        void setPost(int a, int b, int days) {
            if (isTown(a) && isTown(b)) {
                post[a * TOWNS + b] = days;
                post[b * TOWNS + a] = days;
            }
        }

        // ---- fit

        int fitOf(Piece piece, int size, int wants) {
            if (!piece.isWanted(wants)) {
                return NO_FIT;
            }
            int ease = terms.at(Terms.EASE);
            int least = piece.label + lies.low(piece.maker) + piece.hem - size;
            int most = piece.label + lies.high(piece.maker) + piece.hem - size;
            if (least >= -ease && most <= ease) {
                return SURE_FIT;
            }
            return least <= ease && most >= -ease ? MAY_FIT : NO_FIT;
        }

        boolean surelyFits(Piece piece, Booking booking) {
            return fitOf(piece, booking.size, booking.wants) == SURE_FIT;
        }

        int offBy(Piece piece, Booking booking) {
            return Math.abs(piece.label + lies.low(piece.maker) + piece.hem - booking.size);
        }

        // ---- days away

        int firstAway(Piece piece, Booking booking) {
            return booking.night - terms.at(Terms.HOLD) - postBetween(piece.town, booking.town);
        }

        int lastAway(Piece piece, Booking booking) {
            return booking.night + postBetween(piece.town, booking.town) + terms.at(Terms.CLEAN);
        }

        /** Whether the PIECE would be AWAY on some day for both: from HOLD and POST to POST and CLEAN. */
        boolean shareDays(Piece piece, Booking one, Booking other) {
            int posts = postBetween(piece.town, one.town) + postBetween(piece.town, other.town);
            int reach = posts + terms.at(Terms.HOLD) + terms.at(Terms.CLEAN);
            return Math.abs(one.night - other.night) <= reach;
        }

        /** The one BOOKING that HAS the PIECE on days on which the taker would; NOBODY, SEVERAL. */
        int holderInTheWay(Piece piece, Booking taker) {
            int holder = NOBODY;
            for (int i = 0; i < bookingCount; i++) {
                Booking other = bookingAt(i);
                if (other == null || other == taker || other.piece != piece || !shareDays(piece, taker, other)) {
                    continue;
                }
                if (holder != NOBODY) {
                    return SEVERAL;
                }
                holder = i;
            }
            return holder;
        }

        boolean isFree(Piece piece, Booking booking) {
            return piece.canBeWornOn(booking.night) && holderInTheWay(piece, booking) == NOBODY;
        }

        // ---- given, torn, matched

        /** What the BOOKING would be GIVEN, as if only PIECES of the LOT were there; or null. */
        Piece bestFor(Booking booking, int lot) {
            Piece best = null;
            for (int i = 0; i < pieceCount; i++) {
                Piece piece = pieceAt(i);
                if (piece == null || lot != ANY_LOT && piece.lot != lot) {
                    continue;
                }
                if (surelyFits(piece, booking) && isFree(piece, booking)
                        && (best == null || isBetter(piece, best, booking))) {
                    best = piece;
                }
            }
            return best;
        }

        private boolean isBetter(Piece piece, Piece best, Booking booking) {
            int off = offBy(piece, booking);
            int bestOff = offBy(best, booking);
            if (off != bestOff) {
                return off < bestOff;
            }
            return postBetween(piece.town, booking.town) < postBetween(best.town, booking.town);
        }

        /** BOOKINGS on that day or later lose the PIECE, if it did not go OUT for them: how many. */
        int takeFromNights(Piece piece, int day) {
            int taken = 0;
            for (int i = 0; i < bookingCount; i++) {
                Booking booking = bookingAt(i);
                if (booking != null && booking.piece == piece && booking.night >= day && !booking.wentOut()) {
                    booking.piece = null;
                    taken++;
                }
            }
            return taken;
        }

        private boolean isMember(Booking booking, int party) {
            return booking != null && booking.party == party && !booking.isCalledOff();
        }

        int membersOf(int party) {
            int members = 0;
            for (int i = 0; i < bookingCount; i++) {
                if (isMember(bookingAt(i), party)) {
                    members++;
                }
            }
            return members;
        }

        /** How many of the PARTY can be in the LOT: PIECES are given on trial and taken back. */
        int matchedIn(int party, int lot) {
            int matched = 0;
            for (int i = 0; i < bookingCount; i++) {
                Booking booking = bookingAt(i);
                if (!isMember(booking, party)) {
                    continue;
                }
                if (booking.piece == null) {
                    booking.piece = bestFor(booking, lot);
                    isTrial[i] = true;
                }
                if (booking.piece != null && booking.piece.lot == lot) {
                    matched++;
                }
            }
            takeTrialsBack();
            return matched;
        }

        private void takeTrialsBack() {
            for (int i = 0; i < bookingCount; i++) {
                Booking booking = bookingAt(i);
                if (booking != null && isTrial[i]) {
                    booking.piece = null;
                    isTrial[i] = false;
                }
            }
        }

        // ---- money

        int depositOn(Piece piece) {
            return piece.price * terms.at(Terms.DEPOSIT) / 100;
        }

        int daysLate(Booking booking) {
            if (booking.piece == null) {
                return 0;
            }
            int due = lastAway(booking.piece, booking) - terms.at(Terms.CLEAN);
            return Math.max(0, booking.homeOn - due);
        }

        int harmOf(Booking booking) {
            if (booking.lookHome == NO_LOOK) {
                return NONE;
            }
            int more = booking.lookHome & ~booking.lookOut;
            return Integer.bitCount(more & 255) * terms.at(Terms.STAIN)
                    + Integer.bitCount(more >> 8) * terms.at(Terms.TEAR);
        }

        int owedFor(Booking booking) {
            int harm = harmOf(booking);
            return terms.at(Terms.LATE) * daysLate(booking) + (harm == NONE ? 0 : harm);
        }

        // ---- counts

        int knownOn(int day, int firstNight, int lastNight) {
            int known = 0;
            for (int i = 0; i < bookingCount; i++) {
                Booking booking = bookingAt(i);
                if (booking != null && booking.isKnownOn(day) && isIn(booking.night, firstNight, lastNight)) {
                    known++;
                }
            }
            return known;
        }

        int tallyPieces(int what) {
            int sum = 0;
            for (int i = 0; i < pieceCount; i++) {
                Piece piece = pieceAt(i);
                if (piece != null) {
                    sum += piece.tally(what);
                }
            }
            return sum;
        }

        int tallyBookings(int what) {
            int sum = 0;
            for (int i = 0; i < bookingCount; i++) {
                Booking booking = bookingAt(i);
                if (booking != null) {
                    sum += booking.tally(what);
                }
            }
            return sum;
        }
    }

    /** The CHAIN that was searched for last. */
    private static final class Chain {
        private static final int MOST_PLACES = 4;
        private static final int FREE = House.NOBODY, HELD = House.SEVERAL;
        private static final int TOO_FAR = 99;

        private final House house;
        // For each BOOKING and each PIECE: the BOOKING that it would take it from; FREE; HELD: it can't have it.
        private final int[] source = new int[House.MOST_BOOKINGS * House.MOST_PIECES];
        // For each BOOKING how many swaps it takes at least to come to a FREE PIECE (one that
        // comes twice is let pass here): so that no hopeless way is followed.
        private final int[] nearest = new int[House.MOST_BOOKINGS];
        private final int[] takers = new int[MOST_PLACES];
        private final int[] taken = new int[MOST_PLACES];
        private int length;

        Chain(House house) {
            this.house = house;
        }

        int bookingIn(int place) {
            return place >= 0 && place < length && place < MOST_PLACES ? takers[place] : BAD;
        }

        int pieceIn(int place) {
            return place >= 0 && place < length && place < MOST_PLACES ? taken[place] : BAD;
        }

        /** Searches the shortest CHAIN, of like ones the first: how many BOOKINGS are in it; NONE. */
        int find(Booking first) {
            int mostSwaps = Math.min(house.terms.at(Terms.SWAPS), MOST_PLACES - 1);
            length = 0;
            for (int i = 0; i < house.bookingCount; i++) {
                readSources(house.bookingAt(i), first);
            }
            for (int swaps = 0; swaps < mostSwaps; swaps++) {
                spreadNearest();
            }
            takers[0] = first.number;
            for (int swaps = 0; swaps <= mostSwaps; swaps++) {
                if (follow(this, 0, swaps)) {
                    length = swaps + 1;
                    return length;
                }
            }
            return NONE;
        }

        /** All are given what they take, from the first place on. */
        void perform() {
            for (int place = 0; place < length; place++) {
                Booking booking = house.bookingAt(bookingIn(place));
                Piece piece = house.pieceAt(pieceIn(place));
                if (booking != null && piece != null) {
                    booking.piece = piece;
                }
            }
        }

        /** Of the first one, and of those that HAVE a PIECE, what they could take; others take nothing. */
        private void readSources(Booking taker, Booking first) {
            if (taker == null) {
                return;
            }
            boolean takes = taker == first || taker.piece != null;
            nearest[taker.number] = TOO_FAR;
            for (int i = 0; i < house.pieceCount; i++) {
                int from = HELD;
                Piece piece = house.pieceAt(i);
                // What a later one HAS itself stands in the CHAIN already: it is taken from it.
                if (takes && piece != null && piece != taker.piece
                        && piece.canBeWornOn(taker.night) && house.surelyFits(piece, taker)) {
                    from = house.holderInTheWay(piece, taker);
                }
                Booking holder = house.bookingAt(from);
                if (holder != null && holder.wentOut()) {
                    from = HELD;
                }
                if (from == FREE) {
                    nearest[taker.number] = 0;
                }
                source[taker.number * House.MOST_PIECES + i] = from;
            }
        }

        private int sourceOf(int booking, int piece) {
            int at = booking * House.MOST_PIECES + piece;
            return at >= 0 && at < source.length ? source[at] : HELD;
        }

        private int nearestOf(int booking) {
            return booking >= 0 && booking < nearest.length ? nearest[booking] : TOO_FAR;
        }

        private void spreadNearest() {
            for (int i = 0; i < house.bookingCount; i++) {
                for (int k = 0; k < house.pieceCount; k++) {
                    int behind = nearestOf(sourceOf(i, k)) + 1;
                    if (behind < nearestOf(i)) {
                        nearest[i] = behind;
                    }
                }
            }
        }

        /**
         * Fills the places from here on with just so many swaps, the least PIECES first.
         * From a BOOKING that came twice the same PIECE would be taken twice: so PIECES alone are looked at.
         */
        private static boolean follow(Chain chain, int place, int swaps) {
            if (place >= MOST_PLACES || chain.nearestOf(chain.takers[place]) > swaps) {
                return false;
            }
            int taker = chain.takers[place];
            for (int piece = 0; piece < chain.house.pieceCount; piece++) {
                int from = chain.sourceOf(taker, piece);
                if (from == HELD || (from == FREE) != (swaps == 0) || chain.isTakenAhead(piece, place)) {
                    continue;
                }
                chain.taken[place] = piece;
                if (swaps == 0) {
                    return true;
                }
                if (place + 1 < MOST_PLACES) {
                    chain.takers[place + 1] = from;
                }
                if (follow(chain, place + 1, swaps - 1)) {
                    return true;
                }
            }
            return false;
        }

        private boolean isTakenAhead(int piece, int place) {
            for (int i = 0; i < place && i < MOST_PLACES; i++) {
                if (taken[i] == piece) {
                    return true;
                }
            }
            return false;
        }
    }

    /** A SHEET: nothing, or a row of a LANE. The row is made once and used again. */
    private static final class Sheet {
        private static final int BYTES = 0, SHORTS = 1;
        private static final int MOST_ITEMS = 36;

        private final int[] items = new int[MOST_ITEMS];
        private boolean isThere;
        private int lane;
        private int length;

        void begin(int newLane, int newLength) {
            for (int i = 0; i < MOST_ITEMS; i++) {
                items[i] = 0;
            }
            isThere = true;
            lane = newLane;
            length = newLength;
        }

        /** What stands against taking it as a row of the LANE: NULL, CAST, or 0. */
        int refusalAs(int wanted) {
            if (!isThere) {
                return NULL;
            }
            return lane == wanted ? 0 : CAST;
        }

        boolean hasItems(int from, int n) {
            return from >= 0 && from <= length - n;
        }

        int get(int i) {
            return i >= 0 && i < MOST_ITEMS ? items[i] : 0;
        }

        void put(int i, int v) {
            if (i >= 0 && i < MOST_ITEMS) {
                items[i] = lane == BYTES ? (byte) v : lane == SHORTS ? (short) v : v;
            }
        }
    }
}
