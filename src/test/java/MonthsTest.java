/** Promises 13 to 23: months, what comes into nodes and what is missing in stretches. */
public final class MonthsTest {
    private static final Checks checks = new Checks();

    public static void main(String[] args) {
        gives();
        mixes();
        meansOfOneMonth();
        overflows();
        orderOfStretches();
        orderOfNodes();
        burstAheadOfOthers();
        leaks();
        theft();
        levels();
        waste();
        suspects();
        noSuchNumbers();
        checks.end();
    }

    private static void gives() {
        CuratorAquarum x = new CuratorAquarum();
        checks.due(14, "ahead of the first", 0, x.months());
        checks.due(13, "no springs", 0, x.month());
        x.spring(10, 5000, 5000, 0);
        x.spring(10, 7, 7, 0);
        checks.due(13, "second month", 5000 + 4000 + 7 + 5, x.month());
        checks.due(14, "two months", 2, x.months());
        for (int i = 2; i < 7; i++) {
            x.month();
        }
        checks.due(13, "eighth month, cut towards 0", 5000 - 5000 + 7 - 7, x.month());
        checks.due(13, "ninth month, cut towards 0", 5000 - 4000 + 7 - 5, x.month());
        checks.due(13, "tenth month, cut towards 0", 5000 - 2000 + 7 - 2, x.month());
        checks.due(14, "ten months", 10, x.months());
        x.month();
        x.month();
        checks.due(13, "the year anew", 5000 + 3000 + 7 + 4, x.month());
        checks.due(15, "water of the second spring", 11, x.water(1));
    }

    /** Two springs of unlike water into one tank, and that into a castle. */
    private static CuratorAquarum mixed() {
        CuratorAquarum x = new CuratorAquarum();
        x.spring(500, 70, 0, 9);
        x.spring(500, 30, 0, 0);
        x.node('t', 400);
        x.node('c', 300);
        x.channel(0, 2, 1, 20);
        x.siphon(1, 2, 1, 20, 0, 1);
        x.channel(2, 3, 1, 20);
        return x;
    }

    private static void mixes() {
        CuratorAquarum x = mixed();
        checks.due(15, "before any", 0, x.water(0));
        checks.due(16, "before any", 0, x.hardness(0));
        checks.due(17, "before any", 0, x.cloud(0));
        checks.due(18, "before any", 0, x.overflow(0));
        x.rain(99);
        x.month();
        checks.due(15, "spring", 70, x.water(0));
        checks.due(15, "tank", 100, x.water(2));
        checks.due(15, "castle", 100, x.water(3));
        checks.due(16, "spring", 9, x.hardness(0));
        checks.due(16, "tank, cut", 6, x.hardness(2));
        checks.due(16, "castle, of what was cut", 6, x.hardness(3));
        checks.due(17, "spring", 99, x.cloud(1));
        checks.due(17, "tank, half", 49, x.cloud(2));
        checks.due(17, "castle", 49, x.cloud(3));
        checks.due(18, "no overflow", 0, x.overflow(2));
        x.shut(0, true);
        x.shut(1, true);
        x.rain(50);
        x.month();
        checks.due(15, "tank without any", 0, x.water(2));
        checks.due(16, "tank without any", 0, x.hardness(2));
        checks.due(17, "tank without any", 0, x.cloud(2));
        checks.due(17, "castle without any", 0, x.cloud(3));
        checks.due(18, "spring that is shut", 70, x.overflow(0));
        CuratorAquarum y = new CuratorAquarum();
        y.spring(5, 0, 0, 9);
        y.rain(80);
        y.month();
        checks.due(16, "a dry spring", 0, y.hardness(0));
        checks.due(17, "a dry spring", 0, y.cloud(0));
    }

    /** The means are of one month alone, also of the least water. */
    private static void meansOfOneMonth() {
        CuratorAquarum x = new CuratorAquarum();
        x.spring(500, 1, 0, 7);
        x.node('t', 400);
        x.siphon(0, 1, 1, 1, 0, 1);
        for (int rain = 3; rain < 99; rain += 19) {
            x.rain(rain);
            x.month();
            checks.due(16, "one drop at the spring", 7, x.hardness(0));
            checks.due(16, "one drop in the tank", 7, x.hardness(1));
            checks.due(17, "one drop at the spring", rain, x.cloud(0));
            checks.due(17, "one drop in the tank", rain / 2, x.cloud(1));
        }
    }

    private static void overflows() {
        CuratorAquarum x = new CuratorAquarum();
        x.spring(500, 5000, 0, 9);
        x.node('t', 400);
        x.node('c', 300);
        x.channel(0, 1, 1, 20);
        x.channel(1, 2, 99, 1);
        x.month();
        checks.due(18, "spring", 3000, x.overflow(0));
        checks.due(15, "tank", 1996, x.water(1));
        checks.due(18, "tank", 1986, x.overflow(1));
        checks.due(18, "castle", 0, x.overflow(2));
        checks.due(20, "castle", 9, x.waste(2));
        x.shut(0, true);
        x.month();
        checks.due(18, "spring that leads nowhere", 5000, x.overflow(0));
        checks.due(18, "dry tank", 0, x.overflow(1));
    }

    private static void orderOfStretches() {
        CuratorAquarum x = new CuratorAquarum();
        x.spring(500, 150, 0, 0);
        x.node('t', 400);
        x.node('t', 400);
        x.channel(0, 2, 1, 1);
        x.channel(0, 1, 1, 1);
        x.channel(0, 1, 1, 1);
        x.month();
        checks.due(21, "the first takes all it can", 100, x.gauge(0, false));
        checks.due(21, "the second the rest", 50, x.gauge(1, false));
        checks.due(21, "the third nothing", 0, x.gauge(2, false));
        x.cut(0);
        x.month();
        checks.due(21, "a broken one is passed by", 0, x.gauge(0, false));
        checks.due(21, "its end too", 0, x.gauge(0, true));
        checks.due(21, "now the second takes all it can", 100, x.gauge(1, false));
        checks.due(21, "and the third the rest", 50, x.gauge(2, false));
    }

    /** Nodes stand in no order of heights, and two of them at one height. */
    private static void orderOfNodes() {
        CuratorAquarum x = new CuratorAquarum();
        x.node('c', 10);
        x.node('t', 100);
        x.node('t', 300);
        x.node('t', 200);
        x.spring(400, 90, 0, 0);
        x.spring(300, 5, 0, 0);
        x.channel(1, 0, 1, 20);
        x.channel(2, 3, 1, 20);
        x.channel(3, 1, 1, 20);
        x.channel(4, 2, 1, 20);
        x.channel(5, 3, 1, 20);
        x.month();
        checks.due(13, "through all in one month", 95, x.water(0));
        checks.due(20, "to its waste", 95, x.waste(0));
        checks.due(13, "of two at a height", 90, x.water(2));
        checks.due(13, "where both come", 95, x.water(3));
    }

    private static void burstAheadOfOthers() {
        CuratorAquarum x = new CuratorAquarum();
        x.spring(500, 200, 0, 0);
        x.node('t', 400);
        x.siphon(0, 1, 1, 2, 6, 1);
        x.channel(0, 1, 1, 2);
        x.siphon(0, 1, 1, 2, 6, 1);
        x.month();
        checks.due(13, "the siphon bursts", true, x.isBroken(0));
        checks.due(21, "none runs in", 0, x.gauge(0, false));
        checks.due(21, "what was for it is lost", 100, x.gauge(1, false));
        checks.due(13, "no water for the last", false, x.isBroken(2));
        checks.due(18, "what it would have taken", 100, x.overflow(0));
        x.month();
        checks.due(21, "then it is passed by", 200, x.gauge(1, false));
        checks.due(18, "nothing left", 0, x.overflow(0));
        for (int flow = 0; flow <= 30; flow += flow == 0 ? 1 : 29) {
            CuratorAquarum y = new CuratorAquarum();
            y.spring(500, flow, 0, 0);
            y.node('t', 400);
            y.siphon(0, 1, 1, 2, 99, 1);
            y.month();
            checks.due(13, "it bursts by " + flow, flow > 0, y.isBroken(0));
            checks.due(18, "less than its capacity", flow, y.overflow(0));
            checks.due(48, "account of it", flow, y.account('o'));
        }
    }

    private static void leaks() {
        CuratorAquarum x = new CuratorAquarum();
        x.spring(999, 333, 0, 0);
        x.node('t', 0);
        x.channel(0, 1, 9, 20);
        x.month();
        checks.due(21, "beginning", 333, x.gauge(0, false));
        checks.due(21, "end", 333 - 5, x.gauge(0, true));
        checks.due(22, "leaks aside", 0, x.missing(0));
        checks.due(48, "account", 5, x.account('l'));
    }

    private static void theft() {
        CuratorAquarum x = new CuratorAquarum();
        x.spring(500, 300, 0, 9);
        x.node('t', 400);
        x.channel(0, 1, 50, 20);
        x.siphon(0, 1, 10, 20, 0, 1);
        checks.due(22, "before any", 0, x.missing(0));
        x.hole(0, 60);
        x.hole(0, 500);
        x.hole(1, 7);
        x.month();
        checks.due(21, "beginning", 280, x.gauge(0, false));
        checks.due(21, "end of the one", 0, x.gauge(0, true));
        checks.due(22, "all behind the leak", 280 - 28, x.missing(0));
        checks.due(21, "end of the other", 13, x.gauge(1, true));
        checks.due(22, "a hole's size", 7, x.missing(1));
        checks.due(23, "most", 0, x.suspect());
        checks.due(48, "account of theft", 259, x.account('t'));
        x.shut(0, true);
        x.month();
        checks.due(22, "last month alone", 0, x.missing(0));
        checks.due(23, "the other", 1, x.suspect());
    }

    private static void levels() {
        CuratorAquarum x = new CuratorAquarum();
        x.spring(500, 100, 0, 0);
        x.node('c', 400);
        x.channel(0, 1, 1, 20);
        x.nozzle(1, 'b', 10, 0);
        x.nozzle(1, 'a', 40, 90);
        checks.due(19, "before any", 0, x.level(1, 'b'));
        checks.due(19, "before any, without nozzles", 0, x.level(1, 'h'));
        x.month();
        checks.due(19, "greatest", 50, x.level(1, 'b'));
        checks.due(19, "up to its height without water", 90, x.level(1, 'a'));
        checks.due(19, "without nozzles", 100, x.level(1, 'h'));
        checks.due(20, "nothing", 0, x.waste(1));
        x.node('c', 300);
        checks.due(19, "a new castle", 0, x.level(2, 'a'));
        for (char wrong : new char[] {'c', 'B', (char) 0, (char) 65535}) {
            checks.refused(19, "chamber", x, Checks.ARGUMENT, () -> x.level(1, wrong));
            checks.refused(19, "chamber of no castle", x, Checks.ARGUMENT, () -> x.level(0, wrong));
            checks.refused(19, "chamber of no node", x, Checks.INDEX, () -> x.level(3, wrong));
        }
        checks.refused(19, "spring", x, Checks.UNSUPPORTED, () -> x.level(0, 'b'));
    }

    private static void waste() {
        CuratorAquarum x = new CuratorAquarum();
        x.spring(500, 1000, 0, 0);
        x.node('c', 400);
        x.node('t', 400);
        x.channel(0, 1, 1, 5);
        x.channel(0, 2, 1, 5);
        checks.due(20, "before any", 0, x.waste(1));
        x.nozzle(1, 'b', 10, 0);
        x.month();
        checks.due(20, "behind the last", 499 - 200, x.waste(1));
        checks.due(48, "account", 299, x.account('w'));
        x.shut(0, true);
        x.month();
        checks.due(20, "dry", 0, x.waste(1));
        checks.refused(20, "tank", x, Checks.UNSUPPORTED, () -> x.waste(2));
        checks.refused(20, "spring", x, Checks.UNSUPPORTED, () -> x.waste(0));
        checks.refused(20, "no node", x, Checks.INDEX, () -> x.waste(3));
    }

    private static void suspects() {
        CuratorAquarum x = new CuratorAquarum();
        checks.refused(23, "no stretches", x, Checks.NOTHING, x::suspect);
        x.spring(500, 1000, 0, 0);
        x.node('t', 400);
        for (int i = 0; i < 4; i++) {
            x.channel(0, 1, 1, 1);
        }
        x.hole(1, 5);
        x.hole(2, 2);
        x.hole(2, 3);
        x.hole(3, 4);
        checks.refused(23, "before a month", x, Checks.NOTHING, x::suspect);
        x.hole(0, 1);
        x.shut(1, true);
        x.shut(2, true);
        x.shut(3, true);
        x.month();
        checks.due(23, "one is enough", 0, x.suspect());
        x.shut(1, false);
        x.shut(2, false);
        x.shut(3, false);
        x.month();
        checks.due(23, "of like ones the lowest", 1, x.suspect());
        x.hole(3, 2);
        x.month();
        checks.due(23, "the last", 3, x.suspect());
        x.cut(0);
        x.cut(1);
        x.cut(2);
        x.cut(3);
        x.month();
        checks.refused(23, "nothing", x, Checks.NOTHING, x::suspect);
    }

    private static void noSuchNumbers() {
        CuratorAquarum x = mixed();
        for (int wrong : new int[] {Integer.MIN_VALUE, -1, 4, Integer.MAX_VALUE}) {
            checks.refused(15, "no node", x, Checks.INDEX, () -> x.water(wrong));
            checks.refused(16, "no node", x, Checks.INDEX, () -> x.hardness(wrong));
            checks.refused(17, "no node", x, Checks.INDEX, () -> x.cloud(wrong));
            checks.refused(18, "no node", x, Checks.INDEX, () -> x.overflow(wrong));
            checks.refused(19, "no node", x, Checks.INDEX, () -> x.level(wrong, 'b'));
            checks.refused(20, "no node", x, Checks.INDEX, () -> x.waste(wrong));
        }
        for (int wrong : new int[] {Integer.MIN_VALUE, -1, 3, Integer.MAX_VALUE}) {
            checks.refused(21, "no stretch", x, Checks.INDEX, () -> x.gauge(wrong, true));
            checks.refused(21, "no stretch", x, Checks.INDEX, () -> x.gauge(wrong, false));
            checks.refused(22, "no stretch", x, Checks.INDEX, () -> x.missing(wrong));
        }
    }
}
