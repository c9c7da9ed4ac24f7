/** Promises 39 to 47: care, draws, rounds, fines, gangs and purses. */
public final class RoundsTest {
    private static final Checks checks = new Checks();

    public static void main(String[] args) {
        care();
        seed();
        roundAlong();
        roundKeepsTheOrder();
        roundOf();
        roundsRefused();
        fines();
        scrape();
        scrapeBegunTens();
        scrapeRefused();
        summer();
        mend();
        line();
        purse();
        checks.end();
    }

    /** A hard spring, a tank and a castle, with a channel 0 of length 2 and a siphon 1 of length 3. */
    private static CuratorAquarum city() {
        CuratorAquarum x = new CuratorAquarum();
        x.spring(999, 5000, 0, 9);
        x.node('t', 799);
        x.node('c', 0);
        x.channel(0, 1, 2, 20);
        x.siphon(1, 2, 3, 4, 0, 1);
        return x;
    }

    private static void care() {
        CuratorAquarum x = city();
        checks.due(39, "at first", 50, x.care(0));
        checks.due(39, "before", 0, x.care(100));
        for (int wrong : new int[] {Integer.MIN_VALUE, -1, 101, Integer.MAX_VALUE}) {
            checks.refused(39, "range", x, Checks.ARGUMENT, () -> x.care(wrong));
        }
        checks.due(39, "unchanged", 100, x.care(7));
        x.hole(0, 1);
        x.seed(1);
        checks.due(39, "71 is not less than 7", 0, x.roundAlong(0));
        x.seed(1);
        x.care(71);
        checks.due(39, "71 is not less than 71", 0, x.roundAlong(0));
        x.seed(1);
        x.care(72);
        checks.due(39, "71 is less than 72", 1, x.roundAlong(0));
    }

    private static void seed() {
        CuratorAquarum x = city();
        checks.due(40, "at first", 1, x.seed(2147483646));
        checks.due(40, "before", 2147483646, x.seed(5));
        for (int wrong : new int[] {Integer.MIN_VALUE, -1, 0, Integer.MAX_VALUE}) {
            checks.refused(40, "range", x, Checks.ARGUMENT, () -> x.seed(wrong));
        }
        checks.due(40, "unchanged", 5, x.seed(2147483646));
        x.hole(0, 1);
        x.roundAlong(0);
        checks.due(40, "a draw makes z", (int) (2147483646L * 48271L % 2147483647L), x.seed(1));
        x.roundAlong(1);
        checks.due(40, "no draw without a hole", 1, x.seed(1));
    }

    private static void roundAlong() {
        CuratorAquarum x = city();
        int[] sizes = {10, 20, 30, 40, 50};
        for (int size : sizes) {
            x.hole(0, size);
        }
        x.hole(1, 500);
        long z = 1;
        int found = 0;
        int fine = 0;
        for (int size : sizes) {
            z = z * 48271L % 2147483647L;
            if (z % 100 < 50) {
                found++;
                fine += 10 * size;
            }
        }
        checks.due(41, "some are found", true, found > 0 && found < 5);
        checks.due(41, "found", found, x.roundAlong(0));
        checks.due(41, "a draw for each", (int) z, x.seed((int) z));
        checks.due(43, "fines", fine / 2, x.fines(true));
        checks.due(43, "fines", fine - fine / 2, x.fines(false));
        checks.due(41, "the rest stays", 5 - found + 1, x.hole(0, 60));
        x.care(100);
        checks.due(41, "all the rest", 5 - found + 1, x.roundAlong(0));
        checks.due(41, "none left", 0, x.roundAlong(0));
        x.month();
        checks.due(41, "closed ones take nothing", 0, x.missing(0));
        checks.due(41, "another stretch's stays", 500, x.missing(1));
    }

    private static void roundKeepsTheOrder() {
        CuratorAquarum x = city();
        x.hole(0, 7);
        x.hole(0, 100);
        x.hole(0, 9);
        x.seed(2);
        long z1 = 2 * 48271L % 2147483647L;
        long z2 = z1 * 48271L % 2147483647L;
        long z3 = z2 * 48271L % 2147483647L;
        int care = 50;
        int fine = (z1 % 100 < care ? 70 : 0) + (z2 % 100 < care ? 1000 : 0) + (z3 % 100 < care ? 90 : 0);
        int kept = (z1 % 100 < care ? 0 : 7) + (z2 % 100 < care ? 0 : 100) + (z3 % 100 < care ? 0 : 9);
        x.roundAlong(0);
        checks.due(41, "fine by size", fine, x.fines(true) + x.fines(false));
        x.month();
        checks.due(41, "what the others take", kept, x.missing(0));
    }

    private static void roundOf() {
        CuratorAquarum x = city();
        x.node('c', 5);
        x.nozzle(2, 'b', 10, 0);
        x.nozzle(2, 'a', 20, 0);
        x.nozzle(2, 'h', 30, 0);
        x.nozzle(3, 'b', 40, 0);
        checks.due(42, "all as stamped", 0, x.roundOf(2));
        checks.due(42, "so no draw", 1, x.seed(1));
        x.widen(0, 11);
        x.widen(2, 60);
        x.widen(3, 41);
        x.care(100);
        checks.due(42, "found", 2, x.roundOf(2));
        checks.due(42, "two draws", (int) (48271L * 48271L % 2147483647L), x.seed(1));
        checks.due(42, "the stamped one then", 10, x.widen(0, 10));
        checks.due(42, "the stamped one then", 30, x.widen(2, 30));
        checks.due(42, "another castle's stays", 41, x.widen(3, 41));
        checks.due(43, "fines", 100, x.fines(true));
        checks.due(43, "fines", 100, x.fines(false));
        x.care(0);
        checks.due(42, "without care", 0, x.roundOf(3));
        checks.due(42, "a draw all the same", 48271, x.seed(1));
        checks.due(42, "it stays", 41, x.widen(3, 40));
    }

    private static void roundsRefused() {
        CuratorAquarum x = city();
        for (int wrong : new int[] {Integer.MIN_VALUE, -1, 3, Integer.MAX_VALUE}) {
            checks.refused(41, "no stretch", x, Checks.INDEX, () -> x.roundAlong(wrong));
            checks.refused(42, "no node", x, Checks.INDEX, () -> x.roundOf(wrong));
        }
        checks.refused(41, "no stretch", x, Checks.INDEX, () -> x.roundAlong(2));
        checks.refused(42, "spring", x, Checks.UNSUPPORTED, () -> x.roundOf(0));
        checks.refused(42, "tank", x, Checks.UNSUPPORTED, () -> x.roundOf(1));
    }

    private static void fines() {
        CuratorAquarum x = city();
        checks.due(43, "at first", 0, x.fines(true));
        checks.due(43, "at first", 0, x.fines(false));
        x.care(100);
        x.hole(0, 1);
        x.roundAlong(0);
        checks.due(43, "half of 10", 5, x.fines(true));
        x.hole(0, 500);
        x.hole(0, 3);
        x.roundAlong(0);
        checks.due(43, "added up", 5 + 2515, x.fines(true));
        checks.due(43, "added up", 5 + 2515, x.fines(false));
        checks.due(43, "purses have nothing of it", 1000, x.purse('f', 0));
        checks.due(43, "purses have nothing of it", 1000, x.purse('e', 0));
    }

    private static void scrape() {
        CuratorAquarum x = city();
        x.month();
        checks.due(44, "crust", 9, x.crust(0));
        checks.due(44, "begun ten counts whole", 2, x.scrape(0, 'f'));
        checks.due(44, "none then", 0, x.crust(0));
        checks.due(44, "paid", 998, x.purse('f', 0));
        checks.due(44, "not by the other", 1000, x.purse('e', 0));
        x.month();
        x.month();
        checks.due(44, "crust", 18, x.crust(0));
        checks.due(44, "two tens", 4, x.scrape(0, 'e'));
        checks.due(44, "paid", 996, x.purse('e', 0));
        checks.due(44, "capacity again", 2000, x.capacity(0));
    }

    /** By a hardness of 1 to 9 a month of 2000 leaves a crust of 1 to 9. */
    private static void scrapeBegunTens() {
        for (int crust = 1; crust <= 9; crust++) {
            CuratorAquarum x = new CuratorAquarum();
            x.spring(999, 5000, 0, crust);
            x.node('t', 799);
            x.channel(0, 1, 2, 20);
            x.month();
            checks.due(7, "one month", crust, x.crust(0));
            x.month();
            checks.due(7, "two months", 2 * crust, x.crust(0));
            checks.due(44, "begun tens of " + 2 * crust, 2 * crust > 10 ? 4 : 2, x.scrape(0, 'f'));
            x.month();
            checks.due(44, "begun ten of " + crust, 2, x.scrape(0, 'f'));
        }
    }

    private static void scrapeRefused() {
        CuratorAquarum x = city();
        checks.refused(44, "no crust", x, Checks.UNSUPPORTED, () -> x.scrape(0, 'f'));
        x.month();
        checks.refused(44, "siphon", x, Checks.UNSUPPORTED, () -> x.scrape(1, 'f'));
        for (char wrong : new char[] {'F', 'g', (char) 0, (char) 65535}) {
            checks.refused(44, "gang", x, Checks.ARGUMENT, () -> x.scrape(0, wrong));
            checks.refused(44, "gang at a siphon", x, Checks.ARGUMENT, () -> x.scrape(1, wrong));
            checks.refused(44, "gang at no stretch", x, Checks.INDEX, () -> x.scrape(2, wrong));
        }
        checks.refused(44, "no stretch", x, Checks.INDEX, () -> x.scrape(-1, 'f'));
        CuratorAquarum y = poor(city());
        y.month();
        checks.due(44, "a poor gang", 1, y.purse('f', 0));
        checks.refused(44, "the purse has less", y, Checks.UNSUPPORTED, () -> y.scrape(0, 'f'));
        y.purse('f', 1);
        checks.due(44, "just enough", 2, y.scrape(0, 'f'));
        checks.due(44, "nothing left", 0, y.purse('f', 0));
    }

    /** Leaves the fisc's gang with a purse of 1, by mending long stretches again and again. */
    private static CuratorAquarum poor(CuratorAquarum x) {
        x.siphon(0, 1, 99, 2, 0, 1);
        x.cut(2);
        x.mend(2, 'f');
        x.siphon(0, 1, 3, 1, 0, 1);
        x.line(3, 'f', 1);
        checks.due(46, "what is left", 1, x.purse('f', 0));
        return x;
    }

    private static void summer() {
        CuratorAquarum x = city();
        for (int next = 1; next <= 24; next++) {
            x.month();
            boolean isSummer = next % 12 >= 5 && next % 12 <= 7;
            Object due = isSummer ? Checks.UNSUPPORTED.getName() : (Object) ((x.crust(0) + 9) / 10 * 2);
            checks.due(44, "month " + next + " is next", due, Checks.outcome(() -> x.scrape(0, 'e')));
        }
    }

    private static void mend() {
        CuratorAquarum x = city();
        checks.refused(45, "not needed", x, Checks.UNSUPPORTED, () -> x.mend(0, 'f'));
        checks.refused(45, "gang", x, Checks.ARGUMENT, () -> x.mend(0, 'g'));
        checks.refused(45, "no stretch", x, Checks.INDEX, () -> x.mend(2, 'g'));
        checks.refused(45, "no stretch", x, Checks.INDEX, () -> x.mend(-1, 'f'));
        x.cut(0);
        x.cut(1);
        checks.due(45, "channel", 200, x.mend(0, 'f'));
        checks.due(45, "siphon", 60, x.mend(1, 'e'));
        checks.due(45, "whole", false, x.isBroken(0));
        checks.due(45, "paid", 800, x.purse('f', 0));
        checks.due(45, "paid", 940, x.purse('e', 0));
        x.siphon(0, 1, 40, 4, 0, 1);
        x.siphon(0, 1, 1, 1, 0, 1);
        x.cut(2);
        x.cut(3);
        checks.due(45, "just enough", 800, x.mend(2, 'f'));
        checks.refused(45, "the purse has less", x, Checks.UNSUPPORTED, () -> x.mend(3, 'f'));
        checks.due(45, "still broken", true, x.isBroken(3));
        checks.due(45, "by the other", 5, x.mend(3, 'e'));
    }

    private static void line() {
        CuratorAquarum x = city();
        checks.refused(46, "no greater leak", x, Checks.UNSUPPORTED, () -> x.line(0, 'f', 2));
        checks.refused(46, "no greater leak", x, Checks.UNSUPPORTED, () -> x.line(0, 'f', 20));
        for (int wrong : new int[] {Integer.MIN_VALUE, -1, 21, Integer.MAX_VALUE}) {
            checks.refused(46, "leak", x, Checks.ARGUMENT, () -> x.line(0, 'f', wrong));
            checks.refused(46, "no stretch", x, Checks.INDEX, () -> x.line(2, 'f', wrong));
        }
        checks.refused(46, "gang", x, Checks.ARGUMENT, () -> x.line(0, 'g', 0));
        checks.due(46, "one less", 6, x.line(0, 'f', 1));
        checks.refused(46, "as it is", x, Checks.UNSUPPORTED, () -> x.line(0, 'f', 1));
        checks.due(46, "none", 6, x.line(0, 'f', 0));
        checks.due(46, "two less", 18, x.line(1, 'e', 0));
        checks.due(46, "paid", 988, x.purse('f', 0));
        checks.due(46, "paid", 982, x.purse('e', 0));
        x.month();
        checks.due(46, "nothing leaks", x.gauge(0, false), x.gauge(0, true));
        checks.due(46, "nothing leaks", 0, x.account('l'));
        CuratorAquarum y = city();
        y.siphon(0, 1, 99, 1, 0, 1);
        y.siphon(0, 1, 99, 1, 0, 1);
        y.line(2, 'f', 0);
        checks.refused(46, "the purse has less", y, Checks.UNSUPPORTED, () -> y.line(3, 'f', 0));
        y.purse('f', 187);
        checks.refused(46, "one less", y, Checks.UNSUPPORTED, () -> y.line(3, 'f', 0));
        y.purse('f', 1);
        checks.due(46, "just enough", 594, y.line(3, 'f', 0));
    }

    private static void purse() {
        CuratorAquarum x = city();
        checks.due(47, "at first", 1000, x.purse('f', 0));
        checks.due(47, "more", 10999, x.purse('f', 9999));
        checks.due(47, "more again", 11000, x.purse('f', 1));
        checks.due(47, "the other", 1001, x.purse('e', 1));
        for (int wrong : new int[] {Integer.MIN_VALUE, -1, 10000, Integer.MAX_VALUE}) {
            checks.refused(47, "more", x, Checks.ARGUMENT, () -> x.purse('f', wrong));
        }
        for (char wrong : new char[] {'F', 'g', (char) 0, (char) 65535}) {
            checks.refused(47, "gang", x, Checks.ARGUMENT, () -> x.purse(wrong, 1));
        }
        checks.due(47, "unchanged", 11000, x.purse('f', 0));
    }
}
