/** The sentences of 'Terms' on nodes, stretches, leaks, months, castles, nozzles and measures, each by itself. */
final class TermsOfWater {
    private static final int[] SWINGS = {6, 8, 10, 8, 4, 0, -6, -10, -8, -4, 0, 4};

    private final Checks checks;

    TermsOfWater(Checks checks) {
        this.checks = checks;
    }

    void ask() {
        whereWaterGoes();
        nodesAreNumbered();
        springsGive();
        cloudOfSprings();
        stretchesLead();
        channelsFall();
        crustNarrows();
        siphonsCarry();
        wholeAndOpen();
        leaks();
        holes();
        fallingHeights();
        whatComesIn();
        whatRunsOn();
        mixtures();
        siphonsBreak();
        channelsCrust();
        chambersInOrder();
        levels();
        whatNozzlesGive();
        nozzlesAreNumbered();
        widening();
        theftOfNozzles();
        measures();
    }

    private static String refusal(Class<?> want) {
        return want.getName();
    }

    /** A spring of that flow and hardness at 999, and a tank that lies so much lower. */
    private static CuratorAquarum springAndTank(int flow, int hardness, int fall) {
        CuratorAquarum x = new CuratorAquarum();
        x.spring(999, flow, 0, hardness);
        x.node('t', 999 - fall);
        return x;
    }

    /** All the water of the spring comes into castle 1, up to 3160 a month. */
    private static CuratorAquarum castleWith(int water) {
        CuratorAquarum x = new CuratorAquarum();
        x.spring(999, water, 0, 0);
        x.node('c', 0);
        x.siphon(0, 1, 1, 20, 0, 1);
        x.line(0, 'f', 0);
        return x;
    }

    private void whereWaterGoes() {
        checks.sentence("Water that enters leaves by use, theft, leak, overflow or waste.");
        CuratorAquarum x = new CuratorAquarum();
        x.spring(500, 1000, 0, 0);
        x.node('t', 400);
        x.node('c', 300);
        x.channel(0, 1, 1, 5);
        x.channel(1, 2, 10, 4);
        x.hole(0, 99);
        x.nozzle(2, 'b', 10, 0);
        x.widen(0, 12);
        x.month();
        checks.holds("in", 1000, x.account('i'));
        checks.holds("use at level 42", 84, x.account('u'));
        checks.holds("theft of the hole and the nozzle", 99 + 36, x.account('t'));
        checks.holds("leaks", 1 + 2, x.account('l'));
        checks.holds("overflow", 500 + 276, x.account('o'));
        checks.holds("waste", 2, x.account('w'));
        checks.holds("sound", true, x.isSound());
        // This one promises nothing that a test could ask for.
        checks.sentence("The class is not thread-safe.");
    }

    private void nodesAreNumbered() {
        checks.sentence("At most 16 are numbered from 0, each of a height, 0 to 999, and of a kind: "
                + "'s' a spring, 't' a tank, 'c' a castle.");
        CuratorAquarum x = new CuratorAquarum();
        checks.holds("the lowest tank", 0, x.node('t', 0));
        checks.holds("the highest castle", 1, x.node('c', 999));
        checks.holds("the lowest spring", 2, x.spring(0, 1, 1, 1));
        checks.holds("the highest spring", 3, x.spring(999, 1, 1, 1));
        checks.holds("too low", refusal(Checks.ARGUMENT), Checks.outcome(() -> x.node('t', -1)));
        checks.holds("too high", refusal(Checks.ARGUMENT), Checks.outcome(() -> x.node('c', 1000)));
        checks.holds("a spring too low", refusal(Checks.ARGUMENT), Checks.outcome(() -> x.spring(-1, 1, 1, 1)));
        checks.holds("a spring too high", refusal(Checks.ARGUMENT), Checks.outcome(() -> x.spring(1000, 1, 1, 1)));
        checks.holds("'s' needs a flow", refusal(Checks.ARGUMENT), Checks.outcome(() -> x.node('s', 5)));
        for (int i = 4; i < 16; i++) {
            checks.holds("number", i, i % 2 == 0 ? x.node('t', 5) : x.spring(5, 1, 1, 1));
        }
        checks.holds("17th", refusal(Checks.STATE), Checks.outcome(() -> x.node('t', 5)));
        checks.holds("17th as a spring", refusal(Checks.STATE), Checks.outcome(() -> x.spring(5, 1, 1, 1)));
        checks.holds("a tank is no castle", refusal(Checks.UNSUPPORTED), Checks.outcome(() -> x.waste(0)));
        checks.holds("a castle", 0, x.waste(1));
        checks.holds("a spring is no castle", refusal(Checks.UNSUPPORTED), Checks.outcome(() -> x.waste(2)));
    }

    private void springsGive() {
        checks.sentence("A spring has a flow, 0 to 5000, a swing, 0 to its flow, and a hardness, 0 to 9; in the month m of the "
                + "year, 0 to 11, the first of all being 0, it gives its flow and a tenth, cut towards 0, of the swing times this: "
                + "6, 8, 10, 8, 4, 0, -6, -10, -8, -4, 0, 4.");
        int[] bySeven = {4, 5, 7, 5, 2, 0, -4, -7, -5, -2, 0, 2};
        int[] byOne = {0, 0, 1, 0, 0, 0, 0, -1, 0, 0, 0, 0};
        CuratorAquarum x = new CuratorAquarum();
        x.spring(10, 5000, 5000, 0);
        x.spring(10, 7, 7, 9);
        x.spring(10, 100, 1, 3);
        x.spring(10, 100, 0, 3);
        x.spring(10, 0, 0, 3);
        for (int month = 0; month < 30; month++) {
            int m = month % 12;
            x.month();
            checks.holds("the greatest in month " + month, 5000 + 500 * SWINGS[m], x.water(0));
            checks.holds("swing 7 in month " + month, 7 + bySeven[m], x.water(1));
            checks.holds("swing 1 in month " + month, 100 + byOne[m], x.water(2));
            checks.holds("no swing in month " + month, 100, x.water(3));
            checks.holds("no flow in month " + month, 0, x.water(4));
            checks.holds("hardness", x.water(1) > 0 ? 9 : 0, x.hardness(1));
        }
        checks.holds("flow -1", refusal(Checks.ARGUMENT), Checks.outcome(() -> x.spring(5, -1, 0, 0)));
        checks.holds("flow 5001", refusal(Checks.ARGUMENT), Checks.outcome(() -> x.spring(5, 5001, 0, 0)));
        checks.holds("swing -1", refusal(Checks.ARGUMENT), Checks.outcome(() -> x.spring(5, 9, -1, 0)));
        checks.holds("swing above", refusal(Checks.ARGUMENT), Checks.outcome(() -> x.spring(5, 9, 10, 0)));
        checks.holds("hardness -1", refusal(Checks.ARGUMENT), Checks.outcome(() -> x.spring(5, 9, 9, -1)));
        checks.holds("hardness 10", refusal(Checks.ARGUMENT), Checks.outcome(() -> x.spring(5, 9, 9, 10)));
    }

    private void cloudOfSprings() {
        checks.sentence("Its cloud is the rain of the month, 0 to 99, which is told for one month alone, 0 otherwise.");
        CuratorAquarum x = new CuratorAquarum();
        x.spring(10, 5, 0, 0);
        x.spring(20, 500, 0, 0);
        int[] told = {0, 99, -1, 1, 98, -1, -1, 50};
        for (int rain : told) {
            if (rain >= 0) {
                checks.holds("told for one month alone", 0, x.rain(rain));
            }
            x.month();
            checks.holds("rain " + rain, Math.max(0, rain), x.cloud(0));
            checks.holds("rain " + rain + " at the other", Math.max(0, rain), x.cloud(1));
        }
        x.rain(99);
        checks.holds("told again", 99, x.rain(3));
        checks.holds("not before the month", 50, x.cloud(0));
        checks.holds("rain 100", refusal(Checks.ARGUMENT), Checks.outcome(() -> x.rain(100)));
        checks.holds("rain -1", refusal(Checks.ARGUMENT), Checks.outcome(() -> x.rain(-1)));
        x.month();
        checks.holds("what was told last", 3, x.cloud(0));
        x.rain(99);
        x.rain(0);
        x.month();
        checks.holds("taken back", 0, x.cloud(0));
    }

    private void stretchesLead() {
        checks.sentence("At most 20 are numbered from 0, each from a node that is no castle to a lower one that is no spring, "
                + "of a length, 1 to 99 miles, and a width, 1 to 20.");
        for (String from : new String[] {"s", "t", "c"}) {
            for (String to : new String[] {"s", "t", "c"}) {
                for (int lower = -1; lower <= 1; lower++) {
                    boolean may = !from.equals("c") && !to.equals("s") && lower == 1;
                    CuratorAquarum x = new CuratorAquarum();
                    addNode(x, from, 500);
                    addNode(x, to, 500 - lower);
                    Object due = may ? (Object) 0 : refusal(Checks.UNSUPPORTED);
                    String what = " from " + from + " to " + to + ", lower by " + lower;
                    checks.holds("channel" + what, due, Checks.outcome(() -> x.channel(0, 1, 1, 1)));
                    due = may ? (Object) 1 : refusal(Checks.UNSUPPORTED);
                    checks.holds("siphon" + what, due, Checks.outcome(() -> x.siphon(0, 1, 1, 1, 1, 1)));
                }
            }
        }
        CuratorAquarum x = springAndTank(5, 5, 999);
        for (int i = 0; i < 20; i++) {
            int length = i % 2 == 0 ? 1 : 99;
            int width = i % 3 == 0 ? 1 : 20;
            int number = i % 5 == 0 ? x.siphon(0, 1, length, width, 0, 1) : x.channel(0, 1, length, width);
            checks.holds("number", i, number);
        }
        checks.holds("mean length", 50.0, x.meanLength());
        checks.holds("21st", refusal(Checks.STATE), Checks.outcome(() -> x.channel(0, 1, 1, 1)));
        checks.holds("21st, a siphon", refusal(Checks.STATE), Checks.outcome(() -> x.siphon(0, 1, 1, 1, 1, 1)));
        for (int[] wrong : new int[][] {{0, 1}, {100, 1}, {1, 0}, {1, 21}}) {
            Object due = refusal(Checks.ARGUMENT);
            checks.holds("beside it", due, Checks.outcome(() -> x.channel(0, 1, wrong[0], wrong[1])));
            checks.holds("beside it", due, Checks.outcome(() -> x.siphon(0, 1, wrong[0], wrong[1], 1, 1)));
        }
    }

    private static void addNode(CuratorAquarum x, String kind, int height) {
        if (kind.equals("s")) {
            x.spring(height, 10, 5, 5);
        } else {
            x.node(kind.charAt(0), height);
        }
    }

    private static final String OF_CHANNELS = "A channel 'c' needs a fall of 1 or more for each mile, the difference of heights "
            + "divided by the length, cut; its capacity is its width, less a tenth, cut, of its crust, 0 at least, times the "
            + "root, cut, of 100 times that fall.";

    private void channelsFall() {
        checks.sentence(OF_CHANNELS);
        for (int length = 1; length <= 99; length++) {
            int miles = length;
            CuratorAquarum x = springAndTank(5, 5, length);
            x.node('t', 999 - length + 1);
            x.node('t', 999 - 2 * length + 1);
            x.node('t', 999 - 2 * length);
            checks.holds("a fall of 1 in " + length, 0, x.channel(0, 1, length, 3));
            checks.holds("its capacity", 30, x.capacity(0));
            Object less = Checks.outcome(() -> x.channel(0, 2, miles, 3));
            checks.holds("a little less in " + length, refusal(Checks.UNSUPPORTED), less);
            checks.holds("almost 2 in " + length, 1, x.channel(0, 3, length, 3));
            checks.holds("is cut", 30, x.capacity(1));
            checks.holds("a fall of 2 in " + length, 2, x.channel(0, 4, length, 3));
            checks.holds("its capacity", 42, x.capacity(2));
        }
        int[][] roots = {{1, 10}, {2, 14}, {3, 17}, {4, 20}, {5, 22}, {8, 28}, {9, 30}, {15, 38}, {16, 40}, {24, 48},
            {25, 50}, {63, 79}, {64, 80}, {80, 89}, {81, 90}, {99, 99}, {100, 100}, {101, 100}, {102, 100}, {103, 101},
            {168, 129}, {169, 130}, {255, 159}, {256, 160}, {257, 160}, {624, 249}, {625, 250}, {998, 315}, {999, 316}};
        for (int[] root : roots) {
            CuratorAquarum x = springAndTank(5, 5, root[0]);
            x.channel(0, 1, 1, 1);
            x.channel(0, 1, 1, 20);
            checks.holds("the root for a fall of " + root[0], root[1], x.capacity(0));
            checks.holds("times the width", 20 * root[1], x.capacity(1));
        }
    }

    private void crustNarrows() {
        checks.sentence(OF_CHANNELS);
        // A width of 1 and a root of 316: each month 316 times 7 run in, a crust of 1 more.
        CuratorAquarum x = springAndTank(5000, 7, 999);
        x.channel(0, 1, 1, 1);
        x.channel(0, 1, 1, 2);
        for (int month = 1; month <= 10; month++) {
            checks.holds("a crust of less than 10", 316, x.capacity(0));
            x.month();
            checks.holds("crust", month, x.crust(0));
        }
        checks.holds("a crust of 10", 0, x.capacity(0));
        checks.holds("a crust of 15 in a width of 2", 316, x.capacity(1));
        for (int month = 11; month <= 15; month++) {
            x.month();
            checks.holds("nothing runs in", 0, x.gauge(0, false));
            checks.holds("no more crust", 10, x.crust(0));
        }
        checks.holds("a crust of 20", 20, x.crust(1));
        checks.holds("0 at least", 0, x.capacity(1));
        x.month();
        checks.holds("all of it overflows", 5000, x.overflow(0));
        checks.holds("scraped", 2, x.scrape(1, 'f'));
        checks.holds("as at first", 632, x.capacity(1));
    }

    private void siphonsCarry() {
        checks.sentence("A siphon 'p' has a depth, 0 to 99, and lead, 1 to 20; its capacity is its width times the root, cut, of "
                + "100 times the difference of heights, and half of all that, cut.");
        int[][] due = {{1, 1, 5}, {2, 1, 7}, {3, 1, 8}, {3, 2, 17}, {3, 3, 25}, {3, 20, 170}, {25, 1, 25}, {26, 3, 75},
            {99, 1, 49}, {99, 3, 148}, {100, 1, 50}, {998, 1, 157}, {998, 3, 472}, {999, 1, 158}, {999, 20, 3160}};
        for (int[] d : due) {
            CuratorAquarum x = springAndTank(5, 5, d[0]);
            x.siphon(0, 1, 1, d[1], 0, 1);
            x.siphon(0, 1, 99, d[1], 99, 20);
            String what = "a difference of " + d[0] + " by a width of " + d[1];
            checks.holds(what, d[2], x.capacity(0));
            checks.holds(what + ", whatever the length, depth and lead", d[2], x.capacity(1));
        }
        CuratorAquarum x = springAndTank(5, 5, 1);
        for (int[] wrong : new int[][] {{-1, 1}, {100, 1}, {0, 0}, {0, 21}}) {
            Object refused = refusal(Checks.ARGUMENT);
            checks.holds("beside it", refused, Checks.outcome(() -> x.siphon(0, 1, 1, 1, wrong[0], wrong[1])));
        }
        // It gets no crust, whatever runs into it.
        CuratorAquarum y = springAndTank(5000, 9, 999);
        y.siphon(0, 1, 1, 20, 0, 1);
        y.month();
        checks.holds("no crust", 0, y.crust(0));
        checks.holds("as wide", 3160, y.capacity(0));
    }

    private void wholeAndOpen() {
        checks.sentence("A stretch is whole, or broken; it is open at first, and can be shut.");
        CuratorAquarum x = springAndTank(10, 0, 100);
        x.channel(0, 1, 1, 1);
        x.siphon(0, 1, 1, 1, 0, 1);
        for (int i = 0; i < 2; i++) {
            checks.holds("whole", false, x.isBroken(i));
            checks.holds("open", false, x.shut(i, i == 0));
            x.month();
            checks.holds("it runs", i == 0 ? 0 : 10, x.gauge(i, false));
            checks.holds("shut", i == 0, x.shut(i, true));
            checks.holds("shut again", true, x.shut(i, true));
            checks.holds("not broken by that", false, x.isBroken(i));
            x.month();
            checks.holds("none runs", 0, x.gauge(i, false));
            checks.holds("broken while it is shut", false, x.cut(i));
            checks.holds("broken again", true, x.cut(i));
            checks.holds("opened", true, x.shut(i, false));
            x.month();
            checks.holds("broken still", 0, x.gauge(i, false));
            x.mend(i, 'f');
            x.month();
            checks.holds("whole and open", 10, x.gauge(i, false));
            x.shut(i, true);
        }
    }

    private void leaks() {
        checks.sentence("Of the water that runs into a stretch so much leaks as that times its leak, 0 to 20, 2 at first, times "
                + "its length, divided by 1000, cut, at most all.");
        int[][] due = {{0, 99, 2, 0}, {1, 99, 2, 0}, {5, 99, 2, 0}, {6, 99, 2, 1}, {505, 99, 2, 99}, {506, 99, 2, 100},
            {499, 1, 2, 0}, {500, 1, 2, 1}, {501, 1, 2, 1}, {999, 1, 2, 1}, {1000, 1, 2, 2}, {3000, 99, 2, 594},
            {10, 99, 1, 0}, {11, 99, 1, 1}, {999, 1, 1, 0}, {1000, 1, 1, 1}, {3000, 99, 1, 297}, {3000, 99, 0, 0}};
        for (int[] d : due) {
            CuratorAquarum x = springAndTank(d[0], 0, 999);
            x.siphon(0, 1, d[1], 20, 0, 1);
            x.channel(0, 1, d[1], 20);
            for (int stretch = 0; stretch < 2; stretch++) {
                if (d[2] < 2) {
                    x.line(stretch, "fe".charAt(stretch), d[2]);
                }
            }
            x.shut(1, true);
            x.month();
            String what = d[0] + " over " + d[1] + " miles by a leak of " + d[2];
            checks.holds(what, d[3], x.account('l'));
            checks.holds(what + ", what comes out", d[0] - d[3], x.gauge(0, true));
            checks.holds(what + ", no theft", 0, x.account('t'));
            x.shut(0, true);
            x.shut(1, false);
            x.month();
            int in = Math.min(d[0], x.capacity(1));
            checks.holds(what + " in a channel", in * d[1] * d[2] / 1000, x.account('l'));
        }
        CuratorAquarum x = springAndTank(0, 0, 999);
        x.siphon(0, 1, 1, 1, 0, 1);
        checks.holds("leak 20", refusal(Checks.UNSUPPORTED), Checks.outcome(() -> x.line(0, 'f', 20)));
        checks.holds("leak 21", refusal(Checks.ARGUMENT), Checks.outcome(() -> x.line(0, 'f', 21)));
        checks.holds("leak -1", refusal(Checks.ARGUMENT), Checks.outcome(() -> x.line(0, 'f', -1)));
        checks.holds("2 at first", refusal(Checks.UNSUPPORTED), Checks.outcome(() -> x.line(0, 'f', 2)));
    }

    private void holes() {
        checks.sentence("Of what is left each hole that was made in it takes its size, 1 to 500, or what there is, if that is "
                + "less, in the order in which they were made; that is theft, too.");
        // Of 500 over 50 miles 50 leak, and 450 are left.
        int[][] due = {{1, 0, 1}, {449, 0, 449}, {450, 0, 450}, {451, 0, 450}, {500, 0, 450}, {449, 1, 450},
            {449, 2, 450}, {400, 49, 449}, {400, 51, 450}, {500, 500, 450}, {1, 500, 450}};
        for (int[] d : due) {
            CuratorAquarum x = springAndTank(500, 0, 999);
            x.siphon(0, 1, 50, 20, 0, 1);
            x.hole(0, d[0]);
            if (d[1] > 0) {
                x.hole(0, d[1]);
            }
            x.month();
            String what = "holes of " + d[0] + " and " + d[1];
            checks.holds(what, d[2], x.missing(0));
            checks.holds(what + ", theft", d[2], x.account('t'));
            checks.holds(what + ", leaks", 50, x.account('l'));
            checks.holds(what + ", what comes out", 450 - d[2], x.water(1));
        }
        CuratorAquarum x = springAndTank(500, 0, 999);
        x.channel(0, 1, 1, 1);
        checks.holds("size 0", refusal(Checks.ARGUMENT), Checks.outcome(() -> x.hole(0, 0)));
        checks.holds("size 501", refusal(Checks.ARGUMENT), Checks.outcome(() -> x.hole(0, 501)));
        x.hole(0, 500);
        x.shut(0, true);
        x.month();
        checks.holds("of none it takes none", 0, x.account('t'));
    }

    private void fallingHeights() {
        checks.sentence("Nodes are gone through by falling heights, of like ones by numbers.");
        // Three ways go down through all heights, against the numbers, three tanks at each height.
        CuratorAquarum x = new CuratorAquarum();
        for (int i = 0; i < 15; i++) {
            x.node('t', 100 + 10 * (i / 3));
        }
        x.spring(900, 100, 0, 0);
        for (int i = 0; i < 12; i++) {
            x.siphon(i + 3, i, 1, 20, 0, 1);
        }
        for (int i = 12; i < 15; i++) {
            x.channel(15, i, 99, 1);
        }
        x.month();
        checks.holds("the spring first", 100, x.water(15));
        checks.holds("it is left with", 100 - 3 * 26, x.overflow(15));
        for (int i = 0; i < 15; i++) {
            checks.holds("tank " + i + " in the same month", 26 - 5, x.water(i));
            checks.holds("what overflows there", i < 3 ? 21 : 0, x.overflow(i));
        }
    }

    private void whatComesIn() {
        checks.sentence("What comes into a node is what its spring gives, or the ends of stretches.");
        CuratorAquarum x = new CuratorAquarum();
        x.spring(999, 300, 300, 0);
        x.spring(998, 200, 0, 0);
        x.node('t', 500);
        x.siphon(0, 2, 99, 20, 0, 1);
        x.siphon(1, 2, 50, 20, 0, 1);
        x.hole(1, 7);
        x.month();
        checks.holds("what its spring gives", 480, x.water(0));
        checks.holds("what the other gives", 200, x.water(1));
        checks.holds("the ends of two", 480 - 95 + 200 - 20 - 7, x.water(2));
        checks.holds("they are the ends", x.gauge(0, true) + x.gauge(1, true), x.water(2));
        x.shut(0, true);
        x.month();
        checks.holds("of one month alone", 200 - 20 - 7, x.water(2));
    }

    private void whatRunsOn() {
        checks.sentence("It runs into its open and whole stretches, by their numbers, into each as much as is left, up to its "
                + "capacity; what is left behind them overflows, but in a castle.");
        for (int flow : new int[] {0, 1, 99, 100, 101, 299, 300, 301, 5000}) {
            CuratorAquarum x = new CuratorAquarum();
            x.spring(500, flow, 0, 0);
            x.node('t', 400);
            x.node('c', 399);
            x.channel(0, 1, 1, 1);
            x.channel(0, 1, 1, 5);
            x.channel(0, 1, 1, 5);
            x.siphon(0, 1, 1, 4, 0, 1);
            x.cut(1);
            x.shut(2, true);
            x.month();
            checks.holds("into the first of " + flow, Math.min(flow, 100), x.gauge(0, false));
            checks.holds("into the broken one", 0, x.gauge(1, false));
            checks.holds("into the shut one", 0, x.gauge(2, false));
            checks.holds("into the last of " + flow, Math.min(Math.max(0, flow - 100), 200), x.gauge(3, false));
            checks.holds("overflow of " + flow, Math.max(0, flow - 300), x.overflow(0));
            checks.holds("overflow below it", x.water(1), x.overflow(1));
            checks.holds("account of it", x.overflow(0) + x.overflow(1), x.account('o'));
        }
        CuratorAquarum x = castleWith(700);
        x.month();
        checks.holds("not in a castle", 0, x.overflow(1));
        checks.holds("there it is waste", 700, x.waste(1));
    }

    private void mixtures() {
        checks.sentence("Of what comes in, hardness and cloud are the means by water, of all that comes, cut, 0 without any; in a "
                + "tank, behind that, the cloud is half, cut.");
        CuratorAquarum x = new CuratorAquarum();
        x.spring(900, 2, 0, 9);
        x.spring(899, 1, 0, 8);
        x.node('t', 800);
        x.spring(799, 3, 0, 5);
        x.node('t', 700);
        x.node('c', 600);
        x.node('t', 500);
        x.siphon(0, 2, 1, 1, 0, 1);
        x.siphon(1, 2, 1, 1, 0, 1);
        x.siphon(2, 4, 1, 1, 0, 1);
        x.siphon(3, 4, 1, 1, 0, 1);
        x.siphon(4, 5, 1, 1, 0, 1);
        x.rain(99);
        x.month();
        checks.holds("26 of hardness in 3", 8, x.hardness(2));
        checks.holds("half of 99", 49, x.cloud(2));
        checks.holds("39 of hardness in 6", 6, x.hardness(4));
        checks.holds("444 of cloud in 6 are 74, half of it", 37, x.cloud(4));
        checks.holds("as it left the tank", 6, x.hardness(5));
        checks.holds("in a castle it is not half", 37, x.cloud(5));
        checks.holds("at a spring neither", 99, x.cloud(0));
        checks.holds("a tank without any", 0, x.hardness(6) + x.cloud(6));
        x.rain(97);
        x.month();
        checks.holds("435 of cloud in 6 are 72, half of it", 36, x.cloud(4));
        x.cut(0);
        x.cut(1);
        x.rain(99);
        x.month();
        checks.holds("none comes", 0, x.hardness(2) + x.cloud(2));
        checks.holds("of all that comes then", 5, x.hardness(4));
        checks.holds("of all that comes then, half", 49, x.cloud(4));
        CuratorAquarum y = new CuratorAquarum();
        y.spring(900, 10, 10, 9);
        for (int month = 0; month < 8; month++) {
            y.rain(50);
            y.month();
        }
        checks.holds("a spring that gives none", 0, y.water(0));
        checks.holds("its hardness and cloud", 0, y.hardness(0) + y.cloud(0));
    }

    private void siphonsBreak() {
        checks.sentence("A siphon into which water would run, and whose depth is more than 5 times its lead, breaks: the water "
                + "that would run in, up to its capacity, overflows at its upper node, and none runs in.");
        for (int lead = 1; lead <= 20; lead++) {
            for (int depth : new int[] {5 * lead - 1, 5 * lead, 5 * lead + 1}) {
                if (depth <= 99) {
                    CuratorAquarum x = springAndTank(1, 0, 1);
                    x.siphon(0, 1, 1, 1, depth, lead);
                    x.month();
                    checks.holds("depth " + depth + ", lead " + lead, depth > 5 * lead, x.isBroken(0));
                    checks.holds("what overflows", depth > 5 * lead ? 1 : 0, x.overflow(0));
                }
            }
        }
        CuratorAquarum x = springAndTank(160, 0, 100);
        x.siphon(0, 1, 1, 2, 99, 19);
        x.siphon(0, 1, 1, 1, 99, 19);
        x.channel(0, 1, 1, 20);
        x.shut(0, true);
        x.cut(1);
        x.month();
        checks.holds("a shut one does not break", false, x.isBroken(0));
        checks.holds("nothing overflows", 0, x.overflow(0));
        x.shut(0, false);
        x.mend(1, 'f');
        x.month();
        checks.holds("both break", true, x.isBroken(0) && x.isBroken(1));
        checks.holds("as much as both capacities", 150, x.overflow(0));
        checks.holds("account of it", 150, x.account('o') - x.overflow(1));
        checks.holds("none runs in", 0, x.gauge(0, false) + x.gauge(1, false));
        checks.holds("none comes out, leaks or is missing", 0, x.gauge(0, true) + x.missing(0) + x.account('l'));
        checks.holds("the channel behind them has the rest", 10, x.gauge(2, false));
        checks.holds("a channel does not break", false, x.isBroken(2));
        x.month();
        checks.holds("a broken one is none", 160, x.gauge(2, false));
        checks.holds("nothing overflows then", 0, x.overflow(0));
        CuratorAquarum dry = springAndTank(0, 0, 100);
        dry.siphon(0, 1, 1, 1, 99, 1);
        dry.month();
        checks.holds("without water it does not break", false, dry.isBroken(0));
    }

    private void channelsCrust() {
        checks.sentence("A channel into which water runs gets a crust of that times its hardness, divided by 2000, cut, more "
                + "behind that month.");
        int[][] due = {{1999, 1, 0}, {2000, 1, 1}, {222, 9, 0}, {223, 9, 1}, {666, 3, 0}, {667, 3, 1}, {3999, 1, 1},
            {4000, 1, 2}, {5000, 9, 22}, {5000, 0, 0}, {444, 9, 1}, {445, 9, 2}};
        for (int[] d : due) {
            CuratorAquarum x = springAndTank(d[0], d[1], 999);
            x.channel(0, 1, 1, 20);
            checks.holds("at first", 0, x.crust(0));
            int wide = x.capacity(0);
            x.month();
            checks.holds(d[0] + " of hardness " + d[1], d[2], x.crust(0));
            checks.holds("as much as ran in that month", Math.min(d[0], wide), x.gauge(0, false));
            x.month();
            checks.holds("twice", 2 * d[2], x.crust(0));
        }
        // What runs in counts, leaks and holes aside, by the hardness of the upper node.
        CuratorAquarum x = new CuratorAquarum();
        x.spring(999, 1000, 0, 9);
        x.spring(998, 1000, 0, 0);
        x.node('t', 898);
        x.node('t', 100);
        x.siphon(0, 2, 1, 20, 0, 1);
        x.siphon(1, 2, 1, 20, 0, 1);
        x.line(0, 'f', 0);
        x.line(1, 'f', 0);
        x.channel(2, 3, 7, 20);
        x.hole(2, 500);
        x.month();
        checks.holds("hardness of the tank", 4, x.hardness(2));
        checks.holds("2000 of hardness 4", 4, x.crust(2));
        checks.holds("of what ran in", 2000, x.gauge(2, false));
        checks.holds("not of what came out", 2000 - 28 - 500, x.gauge(2, true));
    }

    private void chambersInOrder() {
        checks.sentence("In a castle the water comes into the chambers, 'b' of basins, 'a' of baths and 'h' of houses, in an "
                + "order, 'bah' at first.");
        String[] orders = {"bah", "bha", "abh", "ahb", "hba", "hab"};
        for (int order = 0; order < 6; order++) {
            for (int water = 0; water <= 600; water += 100) {
                CuratorAquarum x = castleWith(water);
                x.nozzle(1, 'b', 10, 0);
                x.nozzle(1, 'a', 10, 0);
                x.nozzle(1, 'h', 10, 0);
                x.grant(0, 0, 2);
                if (order > 0) {
                    checks.holds("the order before", 0, x.order(1, order));
                }
                x.month();
                for (int turn = 0; turn < 3; turn++) {
                    int due = Math.max(0, Math.min(100, (water - 200 * turn) / 2));
                    char chamber = orders[order].charAt(turn);
                    checks.holds(water + " by " + orders[order] + " in " + chamber, due, x.level(1, chamber));
                }
            }
        }
        // Each castle has its own.
        CuratorAquarum x = castleWith(10);
        x.node('c', 1);
        x.order(1, 5);
        checks.holds("the other's", 0, x.order(2, 3));
        checks.holds("the one's", 5, x.order(1, 0));
        checks.holds("the other's then", 3, x.order(2, 0));
    }

    private static final String OF_LEVELS = "The level in a chamber is the greatest one, from 0 to 100, at which its nozzles "
            + "together give no more than what comes in, 100 without open ones; what is left goes on to the next chamber, and "
            + "behind the last one it is waste.";

    private void levels() {
        checks.sentence(OF_LEVELS);
        // Bore, height, water, level: a bore of 10 gives 2 for each step, one of 5 a half, one of 40 gives 32.
        int[][] due = {{10, 0, 0, 0}, {10, 0, 1, 0}, {10, 0, 2, 1}, {10, 0, 3, 1}, {10, 0, 127, 63}, {10, 0, 128, 64},
            {10, 0, 197, 98}, {10, 0, 198, 99}, {10, 0, 199, 99}, {10, 0, 200, 100}, {10, 0, 201, 100}, {5, 0, 0, 1},
            {5, 0, 1, 3}, {5, 0, 48, 97}, {5, 0, 49, 99}, {5, 0, 50, 100}, {40, 90, 0, 90}, {40, 90, 31, 90},
            {40, 90, 32, 91}, {40, 90, 319, 99}, {40, 90, 320, 100}, {40, 90, 321, 100}, {5, 90, 0, 91}, {5, 90, 4, 99},
            {5, 90, 5, 100}, {10, 1, 0, 1}, {10, 89, 22, 100}};
        for (int[] d : due) {
            CuratorAquarum x = castleWith(d[2]);
            x.nozzle(1, 'b', d[0], d[1]);
            x.month();
            String what = "bore " + d[0] + " at " + d[1] + " with " + d[2];
            checks.holds(what, d[3], x.level(1, 'b'));
            checks.holds(what + ", what goes by", d[2] - x.given(0), x.waste(1));
            checks.holds(what + ", without nozzles", 100, x.level(1, 'a'));
            checks.holds(what + ", account of it", x.waste(1), x.account('w'));
        }
        levelsOfMany();
    }

    private void levelsOfMany() {
        CuratorAquarum x = castleWith(2);
        x.nozzle(1, 'b', 5, 0);
        x.nozzle(1, 'b', 5, 0);
        x.month();
        checks.holds("each is cut by itself", 3, x.level(1, 'b'));
        x.close(1, true);
        x.month();
        checks.holds("a shut one has no part", 5, x.level(1, 'b'));
        x.close(0, true);
        x.month();
        checks.holds("all are shut", 100, x.level(1, 'b'));
        checks.holds("all is waste", 2, x.waste(1));
        x.nozzle(1, 'h', 10, 0);
        x.month();
        checks.holds("one of houses without a holder", 100, x.level(1, 'h'));
        x.grant(0, 0, 2);
        x.month();
        checks.holds("with a holder", 1, x.level(1, 'h'));
        checks.holds("no waste", 0, x.waste(1));
        // A chamber takes what it can at its level, and the next one has the rest.
        CuratorAquarum y = castleWith(95);
        y.nozzle(1, 'b', 30, 0);
        y.nozzle(1, 'a', 10, 0);
        y.nozzle(1, 'h', 5, 0);
        y.grant(0, 0, 2);
        y.month();
        checks.holds("18 for each step", 5, y.level(1, 'b'));
        checks.holds("5 are left", 2, y.level(1, 'a'));
        checks.holds("1 is left", 3, y.level(1, 'h'));
        checks.holds("nothing is left", 0, y.waste(1));
        CuratorAquarum dry = castleWith(0);
        dry.nozzle(1, 'a', 10, 30);
        checks.holds("before any month", 0, dry.level(1, 'b') + dry.level(1, 'a'));
        dry.month();
        checks.holds("without water, up to its height", 30, dry.level(1, 'a'));
        checks.holds("without water and nozzles", 100, dry.level(1, 'b'));
    }

    private void whatNozzlesGive() {
        checks.sentence("A nozzle gives, at a level above its height, its real bore squared times the difference, divided by 50, "
                + "cut, otherwise nothing; it gives nothing if it is shut.");
        // Bore, real bore, height, what it gives at the level of 50.
        int[][] due = {{5, 5, 0, 25}, {5, 5, 49, 0}, {5, 5, 48, 1}, {5, 5, 50, 0}, {5, 5, 51, 0}, {5, 5, 90, 0},
            {7, 7, 49, 0}, {7, 7, 48, 1}, {7, 8, 49, 1}, {40, 40, 0, 1600}, {40, 40, 49, 32}, {40, 40, 50, 0},
            {40, 60, 0, 3600}, {40, 60, 49, 72}, {40, 60, 51, 0}, {33, 33, 17, 718}, {33, 47, 17, 1457}};
        for (int[] d : due) {
            CuratorAquarum x = castleWith(100);
            x.nozzle(1, 'b', 10, 0);
            x.month();
            checks.holds("the level", 50, x.level(1, 'b'));
            x.nozzle(1, 'b', d[0], d[2]);
            x.widen(1, d[1]);
            String what = "bore " + d[0] + " in truth " + d[1] + " at " + d[2];
            checks.holds(what, d[3], x.given(1));
            x.close(1, true);
            checks.holds(what + ", shut", 0, x.given(1));
            x.close(1, false);
            checks.holds(what + ", open again", d[3], x.given(1));
        }
        CuratorAquarum x = castleWith(1000);
        x.nozzle(1, 'b', 10, 0);
        x.nozzle(1, 'b', 11, 20);
        x.nozzle(1, 'b', 12, 0);
        x.close(2, true);
        x.month();
        checks.holds("at the highest level", 200 + 193, x.account('u'));
        checks.holds("each by itself", 200, x.given(0));
        checks.holds("each by itself", 193, x.given(1));
        checks.holds("the rest", 1000 - 393, x.waste(1));
    }

    private void nozzlesAreNumbered() {
        checks.sentence("At most 24 are numbered from 0, each at a chamber, with a bore, 5 to 40 quarters of a digit, stamped, "
                + "and a height, 0 to 90.");
        CuratorAquarum x = castleWith(100);
        for (int i = 0; i < 24; i++) {
            int bore = i % 2 == 0 ? 5 : 40;
            checks.holds("number", i, x.nozzle(1, "bah".charAt(i % 3), bore, i % 4 < 2 ? 0 : 90));
            checks.holds("its bore", bore, x.widen(i, bore));
        }
        checks.holds("25th", refusal(Checks.STATE), Checks.outcome(() -> x.nozzle(1, 'b', 5, 0)));
        for (int[] wrong : new int[][] {{4, 0}, {41, 0}, {5, -1}, {5, 91}}) {
            Object refused = Checks.outcome(() -> x.nozzle(1, 'b', wrong[0], wrong[1]));
            checks.holds("beside it", refusal(Checks.ARGUMENT), refused);
        }
    }

    private void widening() {
        checks.sentence("A nozzle can be widened in secret to a real bore of at most 60.");
        CuratorAquarum x = castleWith(5000);
        for (int stamp : new int[] {5, 20, 40}) {
            int number = x.nozzle(1, 'b', stamp, 0);
            checks.holds("to 60", stamp, x.widen(number, 60));
            checks.holds("61", refusal(Checks.ARGUMENT), Checks.outcome(() -> x.widen(number, 61)));
            checks.holds("less again", 60, x.widen(number, stamp + 1));
            checks.holds("the stamped one", stamp + 1, x.widen(number, stamp));
            checks.holds("less", refusal(Checks.ARGUMENT), Checks.outcome(() -> x.widen(number, stamp - 1)));
            checks.holds("nothing happened", stamp, x.widen(number, stamp));
        }
        checks.holds("one of houses without a holder", 7, x.widen(x.nozzle(1, 'h', 7, 0), 60));
    }

    private void theftOfNozzles() {
        checks.sentence("What it gives beyond what it would give with the stamped bore, at the level as it is, is theft.");
        // Bore 7 in truth 8: at level 33 it gives 42 for 32, each cut by itself.
        CuratorAquarum x = castleWith(42);
        x.nozzle(1, 'b', 7, 0);
        x.widen(0, 8);
        x.month();
        checks.holds("the level is by the real bore", 33, x.level(1, 'b'));
        checks.holds("given", 42, x.given(0));
        checks.holds("theft", 10, x.stolen(0));
        checks.holds("account of it", 10, x.account('t'));
        checks.holds("use", 32, x.account('u'));
        x.widen(0, 7);
        checks.holds("as stamped, at the level as it is", 32, x.given(0));
        checks.holds("no theft", 0, x.stolen(0));
        checks.holds("what was in that month stays", 10, x.account('t'));
        x.widen(0, 60);
        checks.holds("as wide as can be", 3600 * 33 / 50, x.given(0));
        checks.holds("theft", 3600 * 33 / 50 - 32, x.stolen(0));
        x.close(0, true);
        checks.holds("a shut one steals nothing", 0, x.stolen(0));
        x.month();
        checks.holds("nor in the account", 0, x.account('t') + x.account('u'));
        CuratorAquarum y = castleWith(1);
        y.nozzle(1, 'b', 5, 0);
        y.widen(0, 6);
        y.month();
        checks.holds("36 times 2 by 50", 2, y.level(1, 'b'));
        checks.holds("25 times 2 by 50", 0, y.stolen(0));
        checks.holds("25 times 2 by 50", 1, y.given(0));
    }

    private void measures() {
        checks.sentence("By 'd' a pipe of a diameter in quarters of a digit has it squared, divided by 25, cut; by 'c' one of a "
                + "round in quarters has 49 times it squared, divided by 12100, cut.");
        int[][] byDiameter = {{1, 0}, {4, 0}, {5, 1}, {7, 1}, {8, 2}, {9, 3}, {10, 4}, {20, 16}, {25, 25}, {998, 39840},
            {999, 39920}};
        int[][] byRound = {{1, 0}, {15, 0}, {16, 1}, {22, 1}, {23, 2}, {63, 16}, {109, 48}, {110, 49}, {111, 49}, {220, 196},
            {998, 4033}, {999, 4041}};
        CuratorAquarum x = new CuratorAquarum();
        for (int[] d : byDiameter) {
            checks.holds("diameter " + d[0], d[1], x.measure('d', d[0]));
        }
        for (int[] d : byRound) {
            checks.holds("round " + d[0], d[1], x.measure('c', d[0]));
        }
        for (int quarters = 1; quarters <= 999; quarters++) {
            CuratorAquarum y = new CuratorAquarum();
            checks.holds("diameter " + quarters, quarters * quarters / 25, y.measure('d', quarters));
            checks.holds("round " + quarters, 49 * quarters * quarters / 12100, y.measure('c', quarters));
        }
    }
}
