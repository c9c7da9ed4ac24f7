import java.math.BigInteger;

/** A city without anything, and a city at its full counts and behind them. */
public final class CountsTest {
    private static final Checks checks = new Checks();
    private static final int[] NUMBERS = {Integer.MIN_VALUE, -1, 0, 1, Integer.MAX_VALUE};

    public static void main(String[] args) {
        emptyCityOfThings();
        emptyCityOfSums();
        emptyCityOfPeople();
        emptyMonths();
        aheadOfTheFirstMonth();
        fullOfNodes();
        fullOfStretches();
        fullOfNozzles();
        fullOfHoles();
        fullList();
        everythingFull();
        checks.end();
    }

    // A city without anything

    private static void refused(int promise, String what, Class<?> want, Checks.Asked call) {
        checks.leavesAll(promise, "empty city, " + what, CuratorAquarum::new, want, call);
    }

    private static void emptyCityOfThings() {
        for (int n : NUMBERS) {
            refused(4, "channel", Checks.INDEX, x -> x.channel(n, n, 1, 1));
            refused(5, "siphon", Checks.INDEX, x -> x.siphon(n, n, 1, 1, 1, 1));
            refused(6, "capacity", Checks.INDEX, x -> x.capacity(n));
            refused(7, "crust", Checks.INDEX, x -> x.crust(n));
            refused(8, "isBroken", Checks.INDEX, x -> x.isBroken(n));
            refused(9, "shut", Checks.INDEX, x -> x.shut(n, true));
            refused(10, "cut", Checks.INDEX, x -> x.cut(n));
            refused(11, "hole", Checks.INDEX, x -> x.hole(n, 1));
            refused(15, "water", Checks.INDEX, x -> x.water(n));
            refused(16, "hardness", Checks.INDEX, x -> x.hardness(n));
            refused(17, "cloud", Checks.INDEX, x -> x.cloud(n));
            refused(18, "overflow", Checks.INDEX, x -> x.overflow(n));
            refused(19, "level", Checks.INDEX, x -> x.level(n, 'b'));
            refused(20, "waste", Checks.INDEX, x -> x.waste(n));
            refused(21, "gauge", Checks.INDEX, x -> x.gauge(n, true));
            refused(22, "missing", Checks.INDEX, x -> x.missing(n));
            refused(24, "order", Checks.INDEX, x -> x.order(n, 0));
            refused(25, "nozzle", Checks.INDEX, x -> x.nozzle(n, 'b', 5, 0));
            refused(26, "close", Checks.INDEX, x -> x.close(n, true));
            refused(27, "widen", Checks.INDEX, x -> x.widen(n, 60));
            refused(28, "given", Checks.INDEX, x -> x.given(n));
            refused(29, "stolen", Checks.INDEX, x -> x.stolen(n));
            refused(31, "grant", Checks.INDEX, x -> x.grant(0, 0, n));
            refused(33, "holder", Checks.INDEX, x -> x.holder(n));
            refused(41, "roundAlong", Checks.INDEX, x -> x.roundAlong(n));
            refused(42, "roundOf", Checks.INDEX, x -> x.roundOf(n));
            refused(44, "scrape", Checks.INDEX, x -> x.scrape(n, 'f'));
            refused(45, "mend", Checks.INDEX, x -> x.mend(n, 'f'));
            refused(46, "line", Checks.INDEX, x -> x.line(n, 'f', 0));
        }
    }

    private static void emptyCityOfSums() {
        CuratorAquarum x = new CuratorAquarum();
        refused(23, "suspect", Checks.NOTHING, CuratorAquarum::suspect);
        refused(50, "heldShare", Checks.NOTHING, CuratorAquarum::heldShare);
        refused(51, "meanLength", Checks.NOTHING, CuratorAquarum::meanLength);
        checks.due(14, "months", 0, x.months());
        checks.due(38, "deal", 0, x.deal());
        checks.due(43, "of tellers", 0, x.fines(true));
        checks.due(43, "of the fisc", 0, x.fines(false));
        for (char kind : "iutlow".toCharArray()) {
            checks.due(48, "account " + kind, 0, x.account(kind));
        }
        checks.due(49, "checksum", (7L * 31 + 2000) * 31 + 1, x.checksum());
        checks.due(52, "isSound", true, x.isSound());
        checks.due(12, "rain", 0, x.rain(99));
        checks.due(39, "care", 50, x.care(0));
        checks.due(40, "seed", 1, x.seed(2));
        checks.due(47, "purse f", 1000, x.purse('f', 0));
        checks.due(47, "purse e", 1000, x.purse('e', 0));
        checks.due(30, "measure", 16, x.measure('d', 20));
        checks.due(49, "z and purses alone", (7L * 31 + 2000) * 31 + 2, x.checksum());
        checks.due(2, "first node, a spring", 0, x.spring(5, 0, 0, 0));
        checks.due(3, "first node, a tank", 0, new CuratorAquarum().node('t', 5));
        checks.due(3, "first node, a castle", 0, new CuratorAquarum().node('c', 5));
    }

    private static void emptyCityOfPeople() {
        CuratorAquarum x = new CuratorAquarum();
        refused(32, "granted", Checks.NOTHING, y -> y.granted(0, 0));
        refused(32, "granted", Checks.NOTHING, y -> y.granted(29, 29));
        refused(34, "giveBack", Checks.NOTHING, y -> y.giveBack(0, 0));
        refused(34, "giveBack", Checks.NOTHING, y -> y.giveBack(29, 29));
        for (int i = 0; i < 30; i++) {
            checks.due(36, "house " + i, 0, x.sell(i));
            checks.due(37, "list", Math.min(i, 11) + 1, i < 12 ? x.enlist(i, i, 5) : 12);
        }
        checks.due(38, "no nozzles", 0, x.deal());
        checks.refused(37, "all wait on", x, Checks.STATE, () -> x.enlist(0, 0, 5));
        for (int i = 0; i < 30; i++) {
            checks.due(35, "person " + i, 0, x.die(i));
        }
        for (int i = 0; i < 30; i++) {
            int dead = i;
            checks.refused(37, "all are dead", x, Checks.UNSUPPORTED, () -> x.enlist(dead, 0, 5));
        }
        checks.due(52, "sound without anyone", true, x.isSound());
    }

    private static void emptyMonths() {
        CuratorAquarum x = new CuratorAquarum();
        for (int i = 0; i < 500; i++) {
            checks.due(13, "month " + i, 0, x.month());
        }
        checks.due(14, "months", 500, x.months());
        checks.due(52, "sound", true, x.isSound());
        checks.due(2, "a spring then", 0, x.spring(5, 100, 100, 0));
        checks.due(13, "month 500 of all is the ninth of its year", 100 - 80, x.month());
    }

    /** What stands, but had no month yet, is all 0. */
    private static void aheadOfTheFirstMonth() {
        CuratorAquarum x = new CuratorAquarum();
        for (int round = 0; round < 2; round++) {
            int n = 3 * round;
            x.spring(500, 100, 100, 9);
            x.node('t', 400);
            x.node('c', 300);
            x.channel(n, n + 1, 1, 5);
            x.siphon(n + 1, n + 2, 1, 5, 0, 1);
            x.nozzle(n + 2, 'b', 40, 0);
            x.hole(2 * round, 1);
            x.widen(round, 60);
            for (int i = n; i < n + 3; i++) {
                checks.due(15, "water", 0, x.water(i));
                checks.due(16, "hardness", 0, x.hardness(i));
                checks.due(17, "cloud", 0, x.cloud(i));
                checks.due(18, "overflow", 0, x.overflow(i));
            }
            for (char chamber : "bah".toCharArray()) {
                checks.due(19, "level " + chamber, 0, x.level(n + 2, chamber));
            }
            checks.due(20, "waste", 0, x.waste(n + 2));
            for (int i = 2 * round; i < 2 * round + 2; i++) {
                checks.due(21, "beginning", 0, x.gauge(i, false));
                checks.due(21, "end", 0, x.gauge(i, true));
                checks.due(22, "missing", 0, x.missing(i));
                checks.due(7, "crust", 0, x.crust(i));
                checks.due(8, "isBroken", false, x.isBroken(i));
            }
            checks.due(28, "given", 0, x.given(round));
            checks.due(29, "stolen", 0, x.stolen(round));
            x.rain(50);
            x.month();
        }
        checks.due(15, "then it is not", 180 - 1, x.water(4));
    }

    // A city at its full counts

    /** Of each kind, and of all kinds by turns, 16 are added and a 17th is refused. */
    private static void fullOfNodes() {
        for (String kinds : new String[] {"s", "t", "c", "stc"}) {
            CuratorAquarum x = new CuratorAquarum();
            for (int i = 0; i < 16; i++) {
                checks.due(kinds.equals("s") ? 2 : 3, "node " + i, i, added(x, kinds.charAt(i % kinds.length()), i));
            }
            checks.refused(2, "17th", x, Checks.STATE, () -> added(x, 's', 5));
            checks.refused(3, "17th", x, Checks.STATE, () -> added(x, 't', 5));
            checks.refused(3, "17th", x, Checks.STATE, () -> added(x, 'c', 5));
            checks.due(15, "the last of them", 0, x.water(15));
            checks.refused(15, "none behind it", x, Checks.INDEX, () -> x.water(16));
        }
    }

    private static int added(CuratorAquarum x, char kind, int height) {
        return kind == 's' ? x.spring(height, 10, 5, 5) : x.node(kind, height);
    }

    /** Channels and siphons are numbered together. */
    private static void fullOfStretches() {
        for (int siphons = 0; siphons <= 2; siphons++) {
            CuratorAquarum x = new CuratorAquarum();
            x.spring(500, 5000, 0, 0);
            x.node('t', 400);
            for (int i = 0; i < 20; i++) {
                boolean isSiphon = siphons == 2 || siphons == 1 && i % 2 == 1;
                int number = isSiphon ? x.siphon(0, 1, 1, 1, 0, 1) : x.channel(0, 1, 1, 1);
                checks.due(isSiphon ? 5 : 4, "stretch " + i, i, number);
            }
            checks.refused(4, "21st", x, Checks.STATE, () -> x.channel(0, 1, 1, 1));
            checks.refused(5, "21st", x, Checks.STATE, () -> x.siphon(0, 1, 1, 1, 0, 1));
            x.cut(0);
            checks.refused(4, "a broken one counts", x, Checks.STATE, () -> x.channel(0, 1, 1, 1));
            checks.refused(6, "none behind the last", x, Checks.INDEX, () -> x.capacity(20));
            x.month();
            checks.due(21, "the last of them", siphons == 0 ? 100 : 50, x.gauge(19, false));
        }
    }

    /** Nozzles of all castles and chambers are numbered together. */
    private static void fullOfNozzles() {
        CuratorAquarum x = new CuratorAquarum();
        x.node('c', 5);
        x.node('c', 6);
        for (int i = 0; i < 24; i++) {
            checks.due(25, "nozzle " + i, i, x.nozzle(i % 2, "bah".charAt(i % 3), 5, 0));
        }
        for (char chamber : "bah".toCharArray()) {
            checks.refused(25, "25th", x, Checks.STATE, () -> x.nozzle(0, chamber, 5, 0));
            checks.refused(25, "25th", x, Checks.STATE, () -> x.nozzle(1, chamber, 5, 0));
        }
        x.close(0, true);
        checks.refused(25, "a shut one counts", x, Checks.STATE, () -> x.nozzle(0, 'b', 5, 0));
        for (int i = 0; i < 8; i++) {
            checks.due(31, "grant " + i, i + 1, x.grant(i, i, 3 * i + 2));
        }
        checks.due(50, "all held", 1.0f, x.heldShare());
        checks.due(27, "the last of them", 5, x.widen(23, 60));
        checks.refused(27, "none behind it", x, Checks.INDEX, () -> x.widen(24, 60));
    }

    private static void fullOfHoles() {
        CuratorAquarum x = new CuratorAquarum();
        x.spring(500, 5000, 0, 0);
        x.node('t', 400);
        x.channel(0, 1, 1, 20);
        x.siphon(0, 1, 1, 20, 0, 1);
        for (int stretch = 0; stretch < 2; stretch++) {
            int holed = stretch;
            for (int i = 1; i <= 5; i++) {
                checks.due(11, "hole " + i, i, x.hole(stretch, i));
            }
            checks.refused(11, "sixth", x, Checks.STATE, () -> x.hole(holed, 1));
        }
        x.month();
        checks.due(22, "all five take", 15, x.missing(0));
        checks.due(22, "all five take", 15, x.missing(1));
        x.care(100);
        checks.due(41, "five are found", 5, x.roundAlong(0));
        checks.due(41, "then none", 0, x.roundAlong(0));
        checks.due(11, "one again", 1, x.hole(0, 9));
        checks.refused(11, "the other is full still", x, Checks.STATE, () -> x.hole(1, 1));
    }

    private static void fullList() {
        CuratorAquarum x = new CuratorAquarum();
        x.node('c', 5);
        for (int i = 1; i <= 12; i++) {
            checks.due(37, "waits " + i, i, x.enlist(i % 2, 0, 5));
        }
        checks.refused(37, "13th", x, Checks.STATE, () -> x.enlist(5, 5, 5));
        x.nozzle(0, 'h', 5, 0);
        checks.due(38, "one is given", 1, x.deal());
        checks.due(37, "so there is room", 12, x.enlist(5, 5, 5));
        checks.refused(37, "13th again", x, Checks.STATE, () -> x.enlist(5, 5, 5));
        x.nozzle(0, 'h', 5, 0);
        checks.due(38, "to the other person", 1, x.deal());
        checks.due(33, "him", 0, x.holder(1));
        checks.due(37, "room again", 12, x.enlist(6, 6, 40));
        checks.refused(37, "13th once more", x, Checks.STATE, () -> x.enlist(5, 5, 5));
        x.nozzle(0, 'h', 5, 0);
        checks.due(38, "those who have that house are struck off", 1, x.deal());
        checks.due(33, "the first behind them", 5, x.holder(2));
        checks.due(37, "one waited on", 2, x.enlist(7, 7, 5));
    }

    /** 16 nodes, 20 stretches, 24 nozzles, 5 holes in each stretch and 12 who wait, for a year. */
    private static void everythingFull() {
        CuratorAquarum x = new CuratorAquarum();
        for (int i = 0; i < 8; i++) {
            x.spring(999 - i, 5000, 5000, 9);
        }
        for (int i = 0; i < 4; i++) {
            x.node('t', 500 - i);
        }
        for (int i = 0; i < 4; i++) {
            x.node('c', i);
        }
        for (int i = 0; i < 20; i++) {
            int from = i < 16 ? i / 2 : i - 8;
            int to = i < 16 ? 8 + i / 2 % 4 : i - 4;
            x.siphon(from, to, 99, 20, 99, 20);
            for (int hole = 0; hole < 5; hole++) {
                x.hole(i, 500);
            }
        }
        for (int i = 0; i < 24; i++) {
            x.nozzle(12 + i % 4, "bah".charAt(i % 3), 40, 0);
            x.widen(i, 60);
        }
        for (int i = 0; i < 12; i++) {
            x.enlist(i, i, 40);
        }
        checks.due(38, "all of houses are given", 8, x.deal());
        int[] swings = {6, 8, 10, 8, 4, 0, -6, -10, -8, -4, 0, 4};
        for (int swing : swings) {
            checks.due(13, "eight springs", 8 * (5000 + 500 * swing), x.month());
            checks.due(52, "sound", true, x.isSound());
            int left = x.account('u') + x.account('t') + x.account('l') + x.account('o') + x.account('w');
            checks.due(48, "all that came left", x.account('i'), left);
        }
        checks.due(49, "the sum wraps around", wrapped(x), x.checksum());
    }

    /** The sum without any wrap-around, and its last 64 bits behind that. */
    private static long wrapped(CuratorAquarum x) {
        BigInteger sum = BigInteger.valueOf(7);
        for (int i = 0; i < 16; i++) {
            sum = next(sum, x.water(i));
        }
        for (int i = 0; i < 20; i++) {
            sum = next(next(sum, x.gauge(i, true)), x.crust(i));
        }
        for (int i = 0; i < 24; i++) {
            sum = next(next(sum, x.widen(i, 60)), "bah".charAt(i % 3) == 'h' ? x.holder(i) : -1);
        }
        return next(next(sum, x.purse('f', 0) + x.purse('e', 0)), x.seed(1)).longValue();
    }

    private static BigInteger next(BigInteger sum, int more) {
        return sum.multiply(BigInteger.valueOf(31)).add(BigInteger.valueOf(more));
    }
}
