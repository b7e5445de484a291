import java.util.ArrayList;
import java.util.Arrays;
import java.util.List;
import java.util.regex.Matcher;
import java.util.regex.Pattern;

/** What GownLet must answer, written again, the long way round: LIES, CHAINS and days are tried one by one. */
final class Model {
    private static final String LETTERS = "hcldestw";
    private static final int[] MOST = {9, 9, 999, 100, 9, 999, 999, 3};

    private static final class Piece {
        int number, kind, maker, label, lot, town, price, life, hem, worn;
        boolean told;
        Integer torn;
        boolean retired() { return told || worn >= life; }
    }

    private static final class Booking {
        int number, size, wants, night, town, made, party, stage, deposit, lookOut, lookHome, homeOn;
        Integer off;
        Piece piece;
    }

    private static final class Link {
        final Booking booking;
        final Piece piece;
        Link(Booking booking, Piece piece) { this.booking = booking; this.piece = piece; }
    }

    private String tape = "";
    private final int[] term = {1, 2, 50, 30, 1, 200, 900, 3};
    private final int[][] post = new int[9][9];
    private final List<Piece> pieces = new ArrayList<>();
    private final List<int[]> doubles = new ArrayList<>();
    private final List<Booking> bookings = new ArrayList<>();
    private final int[][] sheets = new int[4][];
    private final int[] lanes = new int[4];
    private int[] low = {0, -9, -9, -9, -9, -9};
    private int[] high = {0, 9, 9, 9, 9, 9};
    private boolean quarrel;

    Model() {
        for (int a = 0; a < 9; a++) {
            for (int b = 0; b < 9; b++) {
                post[a][b] = a == b ? 0 : 1;
            }
        }
    }

    private static boolean in(int v, int a, int b) { return a <= v && v <= b; }
    private Piece piece(int n) { return n >= 0 && n < pieces.size() ? pieces.get(n) : null; }
    private Booking booking(int n) { return n >= 0 && n < bookings.size() ? bookings.get(n) : null; }
    private int of(char letter) { return term[LETTERS.indexOf(letter)]; }

    int type(long w, int n) {
        if (n < 1 || n > 8) return -1;
        StringBuilder come = new StringBuilder();
        for (int i = 0; i < n; i++) {
            int sign = (int) (w >> 8 * (n - 1 - i)) & 0xff;
            if (sign < 32 || sign > 126) return -1;
            come.append((char) sign);
        }
        if (tape.length() + n > 60) return -3;
        tape += come;
        return tape.length();
    }

    int terms() {
        String text = tape;
        tape = "";
        Pattern clause = Pattern.compile(" *([hcldestw]) *([0-9]+) *(;?)");
        int[] next = term.clone();
        int clauses = 0;
        int at = 0;
        while (true) {
            Matcher m = clause.matcher(text).region(at, text.length());
            if (!m.lookingAt()) {
                Matcher blanks = Pattern.compile(" *([hcldestw] *)?").matcher(text).region(at, text.length());
                blanks.lookingAt();
                return -20 - blanks.end();
            }
            int place = LETTERS.indexOf(m.group(1));
            if (new java.math.BigInteger(m.group(2)).intValue() > MOST[place]
                    || new java.math.BigInteger(m.group(2)).bitLength() > 20) return -20 - m.start(2);
            next[place] = Integer.parseInt(m.group(2));
            clauses++;
            if (m.group(3).isEmpty()) {
                if (m.end() < text.length()) return -20 - m.end();
                System.arraycopy(next, 0, term, 0, 8);
                return clauses;
            }
            if (clauses == 8) return -20 - m.start(3);
            at = m.end();
        }
    }

    int term(int letter) {
        return letter > 0 && letter < 128 && LETTERS.indexOf(letter) >= 0 ? of((char) letter) : -1;
    }

    int post(int a, int b, int days) {
        if (!in(a, 0, 8) || !in(b, 0, 8) || a == b || !in(days, 0, 9)) return -1;
        int was = post[a][b];
        post[a][b] = post[b][a] = days;
        return was;
    }

    int come(int kind, int maker, int label, int lot, int town, int price, int life) {
        if (!in(maker, 0, 5) || !in(label, 1, 40) || !in(lot, 0, 9) || !in(town, 0, 8)
                || !in(price, 1, 9999) || !in(life, 1, 99)) return -1;
        if (pieces.size() == 24) return -3;
        Piece p = new Piece();
        p.number = pieces.size();
        p.kind = kind; p.maker = maker; p.label = label; p.lot = lot; p.town = town; p.price = price; p.life = life;
        pieces.add(p);
        return p.number;
    }

    int hem(int n, int by) {
        Piece p = piece(n);
        if (p == null || !in(by, 1, 3)) return -1;
        if (p.kind != 1) return -12;
        if (p.hem > 0) return -2;
        p.hem = by;
        return 1;
    }

    private int worth(Piece p) { return Math.max(0, p.price * (p.life - p.worn) / p.life); }

    int told(int n, int what) {
        Piece p = piece(n);
        if (p == null || !in(what, 0, 9)) return -1;
        return new int[] {p.kind, p.maker, p.label, p.lot, p.town, p.price, p.worn, worth(p),
            p.retired() ? 1 : 0, p.torn == null ? -4 : p.torn}[what];
    }

    int same(int a, int x, int b, int y) {
        if (!in(a, 0, 5) || !in(b, 0, 5) || a == b || !in(x, 1, 40) || !in(y, 1, 40)) return -1;
        if (doubles.size() == 20) return -3;
        doubles.add(new int[] {a, x, b, y});
        low = new int[] {99, 99, 99, 99, 99, 99};
        high = new int[] {-99, -99, -99, -99, -99, -99};
        tryLies(new int[6], 1);
        quarrel = low[0] == 99;
        if (quarrel) {
            low = new int[] {0, -9, -9, -9, -9, -9};
            high = new int[] {0, 9, 9, 9, 9, 9};
        }
        return doubles.size() - 1;
    }

    /** LIES of the MAKERS ahead of this one are laid down; of one that no DOUBLE names only the ends are tried. */
    private void tryLies(int[] lies, int maker) {
        for (int[] d : doubles) {
            if (d[0] < maker && d[2] < maker && Math.abs(d[1] + lies[d[0]] - d[3] - lies[d[2]]) > 1) return;
        }
        if (maker == 6) {
            for (int m = 0; m < 6; m++) {
                low[m] = Math.min(low[m], lies[m]);
                high[m] = Math.max(high[m], lies[m]);
            }
            return;
        }
        boolean named = doubles.stream().anyMatch(d -> d[0] == maker || d[2] == maker);
        for (int lie = -9; lie <= 9; lie += named ? 1 : 18) {
            lies[maker] = lie;
            tryLies(lies, maker + 1);
        }
    }

    int lie(int maker, int which) {
        if (!in(maker, 0, 5) || !in(which, 0, 1)) return -101;
        return which == 0 ? low[maker] : high[maker];
    }

    int quarrel() { return quarrel ? 1 : 0; }

    int fits(int n, int size, int wants) {
        Piece p = piece(n);
        if (p == null || !in(size, 1, 40) || !in(wants, 0, 2)) return -1;
        return fit(p, size, wants);
    }

    private int fit(Piece p, int size, int wants) {
        boolean wanted = wants == 2 ? p.kind == 2 : wants == 1 ? p.kind == 1 : p.kind < 2;
        if (!wanted) return 0;
        int some = 0;
        int all = 0;
        for (int lie = low[p.maker]; lie <= high[p.maker]; lie++) {
            all++;
            if (Math.abs(p.label + lie + p.hem - size) <= of('e')) some++;
        }
        return some == all ? 2 : some > 0 ? 1 : 0;
    }

    private boolean fit(Piece p, Booking b) { return fit(p, b.size, b.wants) == 2; }

    private boolean told(int[] b) {
        return in(b[0], 1, 40) && in(b[1], 0, 2) && in(b[2], 20, 380) && in(b[3], 0, 8) && in(b[4], 0, 399) && in(b[5], -1, 4);
    }

    int book(int... told) {
        if (!told(told)) return -1;
        if (bookings.size() == 30) return -3;
        Booking b = new Booking();
        b.number = bookings.size();
        b.size = told[0]; b.wants = told[1]; b.night = told[2]; b.town = told[3]; b.made = told[4]; b.party = told[5];
        bookings.add(b);
        return b.number;
    }

    int off(int n, int day) {
        Booking b = booking(n);
        if (b == null || !in(day, 0, 399) || day < b.made) return -1;
        if (b.off != null || b.stage > 0) return -2;
        b.off = day;
        b.piece = null;
        return 1;
    }

    private int first(Piece p, Booking b) { return b.night - of('h') - post[p.town][b.town]; }
    private int last(Piece p, Booking b) { return b.night + of('c') + post[p.town][b.town]; }

    private List<Booking> holders(Piece p, Booking taker) {
        List<Booking> found = new ArrayList<>();
        for (Booking b : bookings) {
            if (b == taker || b.piece != p) continue;
            for (int day = first(p, taker); day <= last(p, taker); day++) {
                if (day >= first(p, b) && day <= last(p, b)) {
                    found.add(b);
                    break;
                }
            }
        }
        return found;
    }

    private boolean sound(Piece p, Booking b) { return !p.retired() && (p.torn == null || p.torn > b.night); }
    private boolean free(Piece p, Booking b) { return sound(p, b) && holders(p, b).isEmpty(); }

    private Piece given(Booking b, int lot) {
        Piece best = null;
        int least = Integer.MAX_VALUE;
        for (Piece p : pieces) {
            if (lot >= 0 && p.lot != lot || !fit(p, b) || !free(p, b)) continue;
            int rank = Math.abs(p.label + low[p.maker] + p.hem - b.size) * 1000 + post[p.town][b.town];
            if (rank < least) {
                least = rank;
                best = p;
            }
        }
        return best;
    }

    int give(int n) {
        Booking b = booking(n);
        if (b == null) return -1;
        if (b.piece != null || b.off != null) return -2;
        b.piece = given(b, -1);
        return has(n);
    }

    int has(int n) {
        Booking b = booking(n);
        return b == null ? -1 : b.piece == null ? -4 : b.piece.number;
    }

    int free(int p, int b) {
        return piece(p) == null || booking(b) == null ? -1 : free(piece(p), booking(b)) ? 1 : 0;
    }

    int away(int p, int b, int which) {
        if (piece(p) == null || booking(b) == null || !in(which, 0, 1)) return -1;
        return which == 0 ? first(piece(p), booking(b)) : last(piece(p), booking(b));
    }

    int tear(int n, int day) {
        Piece p = piece(n);
        if (p == null || !in(day, 0, 399)) return -1;
        if (p.torn != null && p.torn <= day) return -2;
        p.torn = day;
        int without = 0;
        for (Booking b : bookings) {
            if (b.piece == p && b.night >= day && b.stage == 0) {
                b.piece = null;
                without++;
            }
        }
        return without;
    }

    int mend(int n) {
        Piece p = piece(n);
        if (p == null) return -1;
        if (p.torn == null) return -2;
        p.torn = null;
        return 1;
    }

    private List<Link> best;

    /** All CHAINS, whatever their length, are compared. */
    private void extend(List<Link> ahead, Booking b) {
        for (Link l : ahead) {
            if (l.booking == b) return;
        }
        for (Piece p : pieces) {
            boolean twice = false;
            for (Link l : ahead) {
                twice |= l.piece == p;
            }
            if (twice || !fit(p, b) || !sound(p, b)) continue;
            List<Link> now = new ArrayList<>(ahead);
            now.add(new Link(b, p));
            List<Booking> holders = holders(p, b);
            if (holders.isEmpty()) {
                if (best == null || isAhead(now, best)) best = now;
            } else if (holders.size() == 1 && holders.get(0).stage == 0 && ahead.size() < of('w')) {
                extend(now, holders.get(0));
            }
        }
    }

    private static boolean isAhead(List<Link> a, List<Link> b) {
        if (a.size() != b.size()) return a.size() < b.size();
        for (int i = 0; i < a.size(); i++) {
            int less = a.get(i).piece.number - b.get(i).piece.number;
            if (less != 0) return less < 0;
        }
        return false;
    }

    int chain(int n) {
        Booking b = booking(n);
        if (b == null) return -1;
        if (b.piece != null || b.off != null) return -2;
        best = null;
        extend(new ArrayList<>(), b);
        return best == null ? -4 : best.size();
    }

    int link(int n, int i, int what) {
        if (i < 0 || !in(what, 0, 1)) return -1;
        int length = chain(n);
        if (length < 0) return length;
        if (i >= length) return -1;
        return what == 0 ? best.get(i).booking.number : best.get(i).piece.number;
    }

    int swap(int n) {
        int length = chain(n);
        if (length < 0) return length;
        for (Link l : best) {
            l.booking.piece = l.piece;
        }
        return length;
    }

    int match(int party, int what) {
        if (!in(party, 0, 4) || !in(what, 0, 2)) return -1;
        List<Booking> members = new ArrayList<>();
        for (Booking b : bookings) {
            if (b.party == party && b.off == null) members.add(b);
        }
        if (members.isEmpty()) return -4;
        int bestLot = -1;
        int most = -1;
        for (int lot = 0; lot <= 9; lot++) {
            List<Piece> had = new ArrayList<>();
            for (Booking b : bookings) {
                had.add(b.piece);
            }
            int can = 0;
            for (Booking b : members) {
                if (b.piece == null) b.piece = given(b, lot);
                if (b.piece != null && b.piece.lot == lot) can++;
            }
            for (Booking b : bookings) {
                b.piece = had.get(b.number);
            }
            if (can > most) {
                most = can;
                bestLot = lot;
            }
        }
        return what == 0 ? bestLot : what == 1 ? most : members.size();
    }

    int asOf(int day, int what, int a, int b) {
        if (!in(day, 0, 399) || !in(what, 0, 1)) return -1;
        int n = 0;
        for (Booking k : bookings) {
            if (k.made > day || k.off != null && k.off <= day) continue;
            if (what == 0 || k.night >= a && k.night <= b) n++;
        }
        return n;
    }

    int out(int n, int look) {
        Booking b = booking(n);
        if (b == null || !in(look, 0, 4095)) return -1;
        if (b.piece == null || b.stage > 0) return -2;
        b.stage = 1;
        b.lookOut = look;
        b.deposit = b.piece.price * of('d') / 100;
        return b.deposit;
    }

    int home(int n, int day, int look) {
        Booking b = booking(n);
        if (b == null || !in(day, 0, 399) || !in(look, -1, 4095)) return -1000001;
        if (b.piece != null && day < first(b.piece, b)) return -1000001;
        if (b.stage != 1) return -1000002;
        b.stage = 2;
        b.homeOn = day;
        b.lookHome = look;
        b.piece.worn++;
        return owed(b) - b.deposit;
    }

    private int late(Booking b) { return Math.max(0, b.homeOn - (last(b.piece, b) - of('c'))); }

    private int harm(Booking b) {
        int harm = 0;
        for (int bit = 0; bit < 12; bit++) {
            if ((b.lookHome >> bit & 1) == 1 && (b.lookOut >> bit & 1) == 0) harm += of(bit < 8 ? 's' : 't');
        }
        return harm;
    }

    private int owed(Booking b) { return late(b) * of('l') + (b.lookHome < 0 ? 0 : harm(b)); }

    int about(int n, int what) {
        Booking b = booking(n);
        if (b == null || !in(what, 0, 4)) return -1;
        if (what == 0) return b.stage;
        if (b.stage == 0 || what > 1 && b.stage < 2) return -1;
        return what == 1 ? b.deposit : what == 2 ? late(b) : what == 4 ? owed(b) : b.lookHome < 0 ? -4 : harm(b);
    }

    int retire(int n) {
        Piece p = piece(n);
        if (p == null) return -1;
        if (p.retired()) return -2;
        p.told = true;
        return worth(p);
    }

    int count(int what) {
        switch (what) {
            case 0: return pieces.size();
            case 1: return (int) pieces.stream().filter(Piece::retired).count();
            case 2: return (int) pieces.stream().filter(p -> p.torn != null).count();
            case 3: return doubles.size();
            case 4: return bookings.size();
            case 5: return (int) bookings.stream().filter(b -> b.off != null).count();
            case 6: return (int) bookings.stream().filter(b -> b.piece != null).count();
            case 7: return pieces.stream().mapToInt(p -> p.worn).sum();
            default: return -1;
        }
    }

    int sheet(int s, int lane, int n) {
        if (!in(s, 0, 3) || !in(lane, 0, 2) || n > 36) return -1;
        if (n < 0) return -14;
        sheets[s] = new int[n];
        lanes[s] = lane;
        return n;
    }

    int drop(int s) {
        if (!in(s, 0, 3)) return -1;
        if (sheets[s] == null) return -11;
        int n = sheets[s].length;
        sheets[s] = null;
        return n;
    }

    int item(int s, int lane, int i, int v) {
        if (!in(s, 0, 3) || !in(lane, 0, 2)) return -1;
        if (sheets[s] == null) return -11;
        if (lanes[s] != lane) return -12;
        if (i < 0 || i >= sheets[s].length) return -13;
        sheets[s][i] = lane == 0 ? (byte) v : lane == 1 ? (short) v : v;
        return 1;
    }

    int books(int s, int lane, int from, int n) {
        if (!in(s, 0, 3) || !in(lane, 0, 2) || !in(n, 0, 6)) return -1;
        if (sheets[s] == null) return -11;
        if (lanes[s] != lane) return -12;
        if (from < 0 || from + 6L * n > sheets[s].length) return -13;
        for (int k = 0; k < n; k++) {
            if (!told(Arrays.copyOfRange(sheets[s], from + 6 * k, from + 6 * k + 6))) return -2;
        }
        if (bookings.size() + n > 30) return -3;
        for (int k = 0; k < n; k++) {
            book(Arrays.copyOfRange(sheets[s], from + 6 * k, from + 6 * k + 6));
        }
        return bookings.size();
    }
}
