/** Promises 28 to 32: out, home, about, retire, count. */
final class OutHomeTest {
    private static final int BAD = -1000001, NOT = -1000002;

    public static void main(String[] args) {
        Check c = new Check();
        out(c);
        home(c);
        harm(c);
        late(c);
        termsAsTheyAre(c);
        worn(c);
        about(c);
        retire(c);
        count(c);
        c.end();
    }

    private static GownLet one(int price, int life) {
        GownLet x = new GownLet();
        x.gown(0, 10, 0, 1, price, life);
        x.book(10, 0, 100, 0, 0, -1);
        x.book(10, 0, 200, 0, 0, -1);
        x.give(0);
        return x;
    }

    private static void out(Check c) {
        GownLet x = one(999, 9);
        c.due("booking -1", x.out(-1, 0), GownLet.BAD);
        c.due("booking 2", x.out(2, 0), GownLet.BAD);
        c.due("look -1", x.out(0, -1), GownLet.BAD);
        c.due("look 4096", x.out(0, 4096), GownLet.BAD);
        c.due("it has none", x.out(1, 0), GownLet.NOT);
        c.due("BAD ahead of NOT", x.out(1, 4096), GownLet.BAD);
        c.due("30 hundredths of 999, cut", x.out(0, 4095), 299);
        c.due("again", x.out(0, 0), GownLet.NOT);
        x.home(0, 100, 0);
        c.due("it was out", x.out(0, 0), GownLet.NOT);
        GownLet y = one(9999, 9);
        Check.terms(y, "d100");
        c.due("all of it", y.out(0, 0), 9999);
        GownLet z = one(9999, 9);
        Check.terms(z, "d0");
        c.due("nothing", z.out(0, 0), 0);
    }

    private static void home(Check c) {
        GownLet x = one(1000, 9);
        c.due("booking -1", x.home(-1, 100, 0), BAD);
        c.due("booking 2", x.home(2, 100, 0), BAD);
        c.due("look -2", x.home(0, 100, -2), BAD);
        c.due("look 4096", x.home(0, 100, 4096), BAD);
        c.due("day 400", x.home(0, 400, 0), BAD);
        c.due("day -1", x.home(0, -1, 0), BAD);
        c.due("it is not out", x.home(0, 100, 0), NOT);
        c.due("it has none", x.home(1, 0, 0), NOT);
        c.due("BAD ahead of NOT", x.home(0, 97, 0), BAD);
        x.out(0, 0);
        c.due("ahead of the first day away", x.home(0, 97, 0), BAD);
        c.due("nothing is worn by that", x.told(0, 6), 0);
        c.due("on the first day", x.home(0, 98, 0), -300);
        c.due("again", x.home(0, 98, 0), NOT);
        c.due("worn a night", x.told(0, 6), 1);
        c.due("it has it still", x.has(0), 0);
        c.due("away still", x.free(0, 0), 1);
        x.book(10, 0, 100, 0, 0, -1);
        c.due("for another not free", x.free(0, 2), 0);
    }

    private static int harmOf(int before, int behind) {
        GownLet x = one(1000, 9);
        Check.terms(x, "s7;t100;d0");
        x.out(0, before);
        x.home(0, 100, behind);
        return x.about(0, 3);
    }

    private static void harm(Check c) {
        c.due("none", harmOf(0, 0), 0);
        c.due("a stain", harmOf(0, 1), 7);
        c.due("the last stain", harmOf(0, 128), 7);
        c.due("the first tear", harmOf(0, 256), 100);
        c.due("the last tear", harmOf(0, 2048), 100);
        c.due("all", harmOf(0, 4095), 456);
        c.due("all as before", harmOf(4095, 4095), 0);
        c.due("fewer than before", harmOf(4095, 0), 0);
        c.due("others than before", harmOf(0x505, 0xA0A), 214);
        c.due("without a second look", harmOf(0, -1), GownLet.NONE);
        GownLet x = one(1000, 9);
        x.out(0, 0);
        c.due("late is owed without a look", x.home(0, 103, -1), -200);
        c.due("owed", x.about(0, 4), 100);
    }

    private static int lateOn(int day) {
        GownLet x = one(1000, 9);
        x.out(0, 0);
        x.home(0, day, 0);
        return x.about(0, 2);
    }

    private static void late(Check c) {
        c.due("in time", lateOn(98), 0);
        c.due("on the night", lateOn(100), 0);
        c.due("the last day away is 103, less 2", lateOn(101), 0);
        c.due("a day late", lateOn(102), 1);
        c.due("399", lateOn(399), 298);
        GownLet x = one(1000, 9);
        Check.terms(x, "l999;s999;t999");
        x.out(0, 0);
        c.due("asked for", x.home(0, 399, 4095), 298 * 999 + 12 * 999 - 300);
    }

    private static void termsAsTheyAre(Check c) {
        GownLet x = one(1000, 9);
        x.out(0, 0);
        Check.terms(x, "d50;l10;s1");
        c.due("the deposit was paid", x.about(0, 1), 300);
        c.due("home by the terms now", x.home(0, 103, 3), 22 - 300);
        c.due("owed", x.about(0, 4), 22);
        Check.terms(x, "l100;s5");
        c.due("owed by the terms now", x.about(0, 4), 210);
        c.due("harm by the terms now", x.about(0, 3), 10);
        x.post(0, 1, 0);
        c.due("late by the post now", x.about(0, 2), 3);
        c.due("the deposit stays", x.about(0, 1), 300);
    }

    private static void worn(Check c) {
        GownLet x = new GownLet();
        x.gown(0, 10, 0, 0, 1000, 3);
        for (int i = 0; i < 5; i++) {
            x.book(10, 0, 50 + 50 * i, 0, 0, -1);
        }
        for (int i = 0; i < 4; i++) {
            x.give(i);
        }
        int[] worth = {666, 333, 0, 0};
        int[] retired = {0, 0, 1, 1};
        for (int i = 0; i < 4; i++) {
            c.due("out " + i, x.out(i, 0), 300);
            c.due("worn only at home", x.told(0, 6), i);
            x.home(i, 50 + 50 * i, 0);
            c.due("worn", x.told(0, 6), i + 1);
            c.due("worth", x.told(0, 7), worth[i]);
            c.due("retired", x.told(0, 8), retired[i]);
            c.due("count of retired", x.count(1), retired[i]);
        }
        c.due("retire what is worn out", x.retire(0), GownLet.NOT);
        c.due("it is not given any more", x.give(4), GownLet.NONE);
        c.due("nights", x.count(7), 4);
    }

    private static void about(Check c) {
        GownLet x = one(1000, 9);
        c.due("booking -1", x.about(-1, 0), GownLet.BAD);
        c.due("booking 2", x.about(2, 0), GownLet.BAD);
        c.due("what -1", x.about(0, -1), GownLet.BAD);
        c.due("what 5", x.about(0, 5), GownLet.BAD);
        int[][] due = {{0, -1, -1, -1, -1}, {1, 300, -1, -1, -1}, {2, 300, 1, 1100, 1150}};
        for (int stage = 0; stage <= 2; stage++) {
            for (int what = 0; what <= 4; what++) {
                c.due("stage " + stage + " what " + what, x.about(0, what), due[stage][what]);
                c.due("the other", x.about(1, what), due[0][what]);
            }
            c.due("stage " + stage + " what -1", x.about(0, -1), GownLet.BAD);
            c.due("stage " + stage + " what 5", x.about(0, 5), GownLet.BAD);
            if (stage == 0) {
                x.out(0, 2);
            } else {
                x.home(0, 102, 0x103);
            }
        }
    }

    private static void retire(Check c) {
        GownLet x = new GownLet();
        c.due("no piece", x.retire(0), GownLet.BAD);
        x.gown(0, 10, 0, 0, 1000, 3);
        c.due("piece 1", x.retire(1), GownLet.BAD);
        c.due("piece -1", x.retire(-1), GownLet.BAD);
        x.book(10, 0, 100, 0, 0, -1);
        x.give(0);
        c.due("worth", x.retire(0), 1000);
        c.due("again", x.retire(0), GownLet.NOT);
        c.due("who has it keeps it", x.has(0), 0);
        c.due("it goes out", x.out(0, 0), 300);
    }

    private static void count(Check c) {
        GownLet x = one(1000, 9);
        x.suit(0, 10, 0, 0, 10, 1);
        x.gown(0, 20, 0, 0, 10, 1);
        x.same(0, 1, 1, 1);
        x.off(1, 5);
        x.retire(1);
        x.tear(1, 5);
        x.tear(2, 5);
        x.out(0, 0);
        x.home(0, 100, 0);
        int[] due = {3, 1, 2, 1, 2, 1, 1, 1};
        for (int what = 0; what <= 7; what++) {
            c.due("count " + what, x.count(what), due[what]);
        }
        c.due("count -1", x.count(-1), GownLet.BAD);
        c.due("count 8", x.count(8), GownLet.BAD);
    }
}
