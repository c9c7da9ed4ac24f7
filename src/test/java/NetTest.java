/** Promises 1 to 12: a new object, nodes and stretches. */
public final class NetTest {
    private static final int[] WRONG_NUMBERS = {Integer.MIN_VALUE, -1, 1000000, Integer.MAX_VALUE};
    private static final Checks checks = new Checks();

    public static void main(String[] args) {
        newObject();
        springs();
        swings();
        nodes();
        channels();
        channelsRefused();
        siphons();
        siphonsRefused();
        capacities();
        crusts();
        broken();
        shut();
        cuts();
        holes();
        rain();
        checks.end();
    }

    private static void newObject() {
        CuratorAquarum x = new CuratorAquarum();
        checks.due(1, "months", 0, x.months());
        checks.due(1, "deal", 0, x.deal());
        checks.due(1, "checksum", ((7L * 31 + 2000) * 31) + 1, x.checksum());
        checks.due(1, "fines", 0, x.fines(true) + x.fines(false));
        checks.due(1, "isSound", true, x.isSound());
        checks.refused(1, "no node", x, Checks.INDEX, () -> x.water(0));
        checks.refused(1, "no stretch", x, Checks.INDEX, () -> x.capacity(0));
        checks.refused(1, "no nozzle", x, Checks.INDEX, () -> x.given(0));
        checks.due(1, "care", 50, x.care(50));
        checks.due(1, "z", 1, x.seed(1));
        checks.due(1, "purse f", 1000, x.purse('f', 0));
        checks.due(1, "purse e", 1000, x.purse('e', 0));
        checks.due(1, "rain", 0, x.rain(0));
        checks.due(1, "month without nodes", 0, x.month());
    }

    private static void springs() {
        CuratorAquarum x = new CuratorAquarum();
        checks.due(2, "least", 0, x.spring(0, 0, 0, 0));
        checks.due(2, "greatest", 1, x.spring(999, 5000, 5000, 9));
        int[][] wrong = {{-1, 1, 1, 1}, {1000, 1, 1, 1}, {1, -1, 0, 1}, {1, 5001, 1, 1}, {1, 5, -1, 1},
            {1, 5, 6, 1}, {1, 5, 5, -1}, {1, 5, 5, 10}, {1, -1, -1, 1}, {1, Integer.MIN_VALUE, Integer.MIN_VALUE, 1},
            {Integer.MAX_VALUE, 1, 1, 1}, {1, 1, 1, Integer.MIN_VALUE}};
        for (int[] w : wrong) {
            checks.refused(2, "range", x, Checks.ARGUMENT, () -> x.spring(w[0], w[1], w[2], w[3]));
        }
        for (int i = 2; i < 16; i++) {
            checks.due(2, "number", i, x.spring(500, 100, 10, 5));
        }
        checks.refused(2, "17th", x, Checks.STATE, () -> x.spring(500, 100, 10, 5));
        checks.refused(2, "17th out of range", x, Checks.ARGUMENT, () -> x.spring(500, 100, 101, 5));
        checks.refused(3, "17th node", x, Checks.STATE, () -> x.node('t', 5));
        checks.refused(3, "17th node out of range", x, Checks.ARGUMENT, () -> x.node('s', 5));
    }

    private static void swings() {
        CuratorAquarum x = new CuratorAquarum();
        x.spring(10, 100, 37, 3);
        int[] due = {122, 129, 137, 129, 114, 100, 78, 63, 71, 86, 100, 114, 122, 129};
        for (int i = 0; i < due.length; i++) {
            checks.due(2, "flow of month " + i, due[i], x.month());
            checks.due(2, "water of month " + i, due[i], x.water(0));
            checks.due(2, "hardness of month " + i, 3, x.hardness(0));
        }
    }

    private static void nodes() {
        CuratorAquarum x = new CuratorAquarum();
        checks.due(3, "tank", 0, x.node('t', 0));
        checks.due(3, "castle", 1, x.node('c', 999));
        for (char kind : new char[] {'s', 'T', 'b', (char) 0, (char) 255, (char) 65535}) {
            checks.refused(3, "kind", x, Checks.ARGUMENT, () -> x.node(kind, 5));
        }
        checks.refused(3, "height", x, Checks.ARGUMENT, () -> x.node('t', -1));
        checks.refused(3, "height", x, Checks.ARGUMENT, () -> x.node('c', 1000));
        for (int i = 2; i < 16; i++) {
            checks.due(3, "number", i, x.node(i % 2 == 0 ? 't' : 'c', i));
        }
        checks.refused(3, "17th", x, Checks.STATE, () -> x.node('t', 5));
        checks.due(3, "a castle has waste", 0, x.waste(1));
        checks.refused(3, "a tank is no castle", x, Checks.UNSUPPORTED, () -> x.waste(0));
    }

    private static CuratorAquarum fourNodes() {
        CuratorAquarum x = new CuratorAquarum();
        x.spring(500, 1000, 0, 4);
        x.node('t', 400);
        x.node('c', 100);
        x.spring(90, 10, 0, 0);
        x.node('t', 400);
        return x;
    }

    private static void channels() {
        CuratorAquarum x = fourNodes();
        checks.due(4, "least fall", 0, x.channel(0, 1, 99, 1));
        checks.due(4, "from a tank", 1, x.channel(1, 2, 1, 20));
        checks.due(4, "from spring to castle", 2, x.channel(0, 2, 50, 10));
        for (int i = 3; i < 20; i++) {
            checks.due(4, "number", i, x.channel(0, 1, 1, 1));
        }
        checks.refused(4, "21st", x, Checks.STATE, () -> x.channel(0, 1, 1, 1));
        checks.refused(4, "21st leads wrong", x, Checks.UNSUPPORTED, () -> x.channel(1, 0, 1, 1));
        checks.refused(4, "21st out of range", x, Checks.ARGUMENT, () -> x.channel(0, 1, 0, 1));
        checks.refused(4, "21st without node", x, Checks.INDEX, () -> x.channel(0, 5, 1, 1));
        checks.refused(5, "21st as siphon", x, Checks.STATE, () -> x.siphon(0, 1, 1, 1, 1, 1));
    }

    private static void channelsRefused() {
        CuratorAquarum x = fourNodes();
        for (int wrong : WRONG_NUMBERS) {
            checks.refused(4, "from", x, Checks.INDEX, () -> x.channel(wrong, 1, 0, 0));
            checks.refused(4, "to", x, Checks.INDEX, () -> x.channel(0, wrong, 0, 0));
            checks.refused(4, "length", x, Checks.ARGUMENT, () -> x.channel(0, 1, wrong, 1));
            checks.refused(4, "width", x, Checks.ARGUMENT, () -> x.channel(0, 1, 1, wrong));
        }
        checks.refused(4, "from behind the last", x, Checks.INDEX, () -> x.channel(5, 1, 1, 1));
        checks.refused(4, "length 0", x, Checks.ARGUMENT, () -> x.channel(0, 1, 0, 1));
        checks.refused(4, "length 100", x, Checks.ARGUMENT, () -> x.channel(0, 2, 100, 1));
        checks.refused(4, "width 0", x, Checks.ARGUMENT, () -> x.channel(0, 1, 1, 0));
        checks.refused(4, "width 21", x, Checks.ARGUMENT, () -> x.channel(0, 1, 1, 21));
        checks.refused(4, "range ahead of way", x, Checks.ARGUMENT, () -> x.channel(1, 0, 1, 21));
        checks.refused(4, "from a castle", x, Checks.UNSUPPORTED, () -> x.channel(2, 3, 1, 1));
        checks.refused(4, "to a spring", x, Checks.UNSUPPORTED, () -> x.channel(1, 3, 1, 1));
        checks.refused(4, "upwards", x, Checks.UNSUPPORTED, () -> x.channel(1, 0, 1, 1));
        checks.refused(4, "level", x, Checks.UNSUPPORTED, () -> x.channel(1, 4, 1, 1));
        checks.refused(4, "to itself", x, Checks.UNSUPPORTED, () -> x.channel(1, 1, 1, 1));
        x.node('t', 402);
        x.node('t', 1);
        checks.refused(4, "from a castle to a lower tank", x, Checks.UNSUPPORTED, () -> x.channel(2, 6, 1, 1));
        checks.refused(4, "little fall", x, Checks.UNSUPPORTED, () -> x.channel(0, 5, 99, 1));
        checks.due(4, "fall of one", 0, x.channel(0, 5, 98, 1));
        checks.due(4, "its capacity", 10, x.capacity(0));
    }

    private static void siphons() {
        CuratorAquarum x = fourNodes();
        checks.due(5, "least", 0, x.siphon(0, 1, 1, 1, 0, 1));
        checks.due(5, "greatest", 1, x.siphon(1, 2, 99, 20, 99, 20));
        x.node('t', 499);
        checks.due(5, "it needs no fall by the mile", 2, x.siphon(0, 5, 99, 1, 0, 1));
        for (int i = 3; i < 20; i++) {
            checks.due(5, "number", i, x.siphon(0, 1, 1, 1, 1, 1));
        }
        checks.refused(5, "21st", x, Checks.STATE, () -> x.siphon(0, 1, 1, 1, 1, 1));
        checks.refused(5, "21st leads wrong", x, Checks.UNSUPPORTED, () -> x.siphon(1, 0, 1, 1, 1, 1));
        checks.refused(4, "21st as channel", x, Checks.STATE, () -> x.channel(0, 1, 1, 1));
    }

    private static void siphonsRefused() {
        CuratorAquarum x = fourNodes();
        for (int wrong : WRONG_NUMBERS) {
            checks.refused(5, "from", x, Checks.INDEX, () -> x.siphon(wrong, 1, 0, 1, 1, 1));
            checks.refused(5, "to", x, Checks.INDEX, () -> x.siphon(0, wrong, 0, 1, 1, 1));
            checks.refused(5, "length", x, Checks.ARGUMENT, () -> x.siphon(0, 1, wrong, 1, 1, 1));
            checks.refused(5, "width", x, Checks.ARGUMENT, () -> x.siphon(0, 1, 1, wrong, 1, 1));
            checks.refused(5, "depth", x, Checks.ARGUMENT, () -> x.siphon(0, 1, 1, 1, wrong, 1));
            checks.refused(5, "lead", x, Checks.ARGUMENT, () -> x.siphon(0, 1, 1, 1, 1, wrong));
        }
        checks.refused(5, "length 0", x, Checks.ARGUMENT, () -> x.siphon(0, 1, 0, 1, 1, 1));
        checks.refused(5, "length 100", x, Checks.ARGUMENT, () -> x.siphon(0, 1, 100, 1, 1, 1));
        checks.refused(5, "width 0", x, Checks.ARGUMENT, () -> x.siphon(0, 1, 1, 0, 1, 1));
        checks.refused(5, "width 21", x, Checks.ARGUMENT, () -> x.siphon(0, 1, 1, 21, 1, 1));
        checks.refused(5, "depth 100", x, Checks.ARGUMENT, () -> x.siphon(0, 1, 1, 1, 100, 1));
        checks.refused(5, "lead 0", x, Checks.ARGUMENT, () -> x.siphon(0, 1, 1, 1, 1, 0));
        checks.refused(5, "lead 21", x, Checks.ARGUMENT, () -> x.siphon(0, 1, 1, 1, 1, 21));
        checks.refused(5, "range ahead of way", x, Checks.ARGUMENT, () -> x.siphon(1, 0, 1, 1, 1, 0));
        checks.refused(5, "from a castle", x, Checks.UNSUPPORTED, () -> x.siphon(2, 3, 1, 1, 1, 1));
        checks.refused(5, "to a spring", x, Checks.UNSUPPORTED, () -> x.siphon(1, 3, 1, 1, 1, 1));
        checks.refused(5, "level", x, Checks.UNSUPPORTED, () -> x.siphon(1, 4, 1, 1, 1, 1));
        checks.refused(5, "upwards", x, Checks.UNSUPPORTED, () -> x.siphon(4, 0, 1, 1, 1, 1));
        x.node('t', 1);
        checks.refused(5, "from a castle to a lower tank", x, Checks.UNSUPPORTED, () -> x.siphon(2, 5, 1, 1, 1, 1));
    }

    private static void capacities() {
        CuratorAquarum x = new CuratorAquarum();
        x.spring(999, 5000, 0, 9);
        x.node('t', 0);
        x.node('t', 998);
        x.channel(0, 1, 1, 20);
        x.channel(0, 1, 99, 20);
        x.channel(0, 2, 1, 7);
        x.siphon(0, 1, 5, 20, 0, 20);
        x.siphon(0, 2, 5, 3, 99, 1);
        int[] due = {20 * 316, 20 * 31, 70, 20 * 316 / 2, 15};
        for (int i = 0; i < due.length; i++) {
            checks.due(6, "capacity " + i, due[i], x.capacity(i));
        }
        x.cut(1);
        x.shut(2, true);
        checks.due(6, "of a broken one", 620, x.capacity(1));
        checks.due(6, "of a shut one", 70, x.capacity(2));
        checks.refused(6, "behind the last", x, Checks.INDEX, () -> x.capacity(5));
        for (int wrong : WRONG_NUMBERS) {
            checks.refused(6, "no stretch", x, Checks.INDEX, () -> x.capacity(wrong));
        }
        CuratorAquarum y = new CuratorAquarum();
        y.spring(999, 0, 0, 0);
        for (int i = 0; i < 15; i++) {
            int fall = new int[] {1, 2, 3, 4, 9, 24, 25, 26, 99, 100, 143, 144, 400, 998, 999}[i];
            y.node('t', 999 - fall);
            y.channel(0, i + 1, 1, 1);
            int root = new int[] {10, 14, 17, 20, 30, 48, 50, 50, 99, 100, 119, 120, 200, 315, 316}[i];
            checks.due(6, "root for fall " + fall, root, y.capacity(i));
        }
    }

    private static void crusts() {
        CuratorAquarum x = new CuratorAquarum();
        x.spring(999, 5000, 0, 9);
        x.node('t', 899);
        x.channel(0, 1, 1, 20);
        x.siphon(0, 1, 1, 20, 0, 1);
        checks.due(7, "at first", 0, x.crust(0));
        checks.due(6, "capacity at first", 2000, x.capacity(0));
        x.month();
        checks.due(7, "behind a month", 9, x.crust(0));
        checks.due(6, "less than ten of crust", 2000, x.capacity(0));
        checks.due(7, "of a siphon", 0, x.crust(1));
        x.month();
        checks.due(7, "behind two months", 18, x.crust(0));
        checks.due(6, "ten of crust", 1900, x.capacity(0));
        x.month();
        checks.due(7, "by a lesser capacity", 18 + 8, x.crust(0));
        checks.due(6, "twenty of crust", 1800, x.capacity(0));
        x.shut(0, true);
        x.month();
        checks.due(7, "without water", 26, x.crust(0));
        checks.refused(7, "no stretch", x, Checks.INDEX, () -> x.crust(2));
        checks.refused(7, "no stretch", x, Checks.INDEX, () -> x.crust(-1));
        narrowedToNothing();
    }

    private static void narrowedToNothing() {
        CuratorAquarum x = new CuratorAquarum();
        x.spring(999, 5000, 0, 9);
        x.node('t', 0);
        x.channel(0, 1, 1, 20);
        for (int i = 0; i < 400; i++) {
            x.month();
        }
        int crust = x.crust(0);
        checks.due(6, "narrowed", Math.max(0, 20 - crust / 10) * 316, x.capacity(0));
        checks.due(6, "narrowed to 1 or 0", true, x.capacity(0) <= 316);
        checks.due(7, "comes to its end", true, crust >= 190 && crust < 210);
    }

    private static void broken() {
        CuratorAquarum x = fourNodes();
        x.siphon(0, 1, 1, 1, 6, 1);
        x.siphon(0, 1, 1, 1, 5, 1);
        x.siphon(1, 2, 1, 1, 99, 19);
        x.channel(0, 1, 1, 1);
        checks.due(8, "at first", false, x.isBroken(0));
        x.shut(0, true);
        x.month();
        checks.due(8, "no water into a shut one", false, x.isBroken(0));
        x.shut(0, false);
        x.month();
        checks.due(8, "too deep", true, x.isBroken(0));
        checks.due(8, "just not too deep", false, x.isBroken(1));
        checks.due(8, "too deep below a tank", true, x.isBroken(2));
        checks.due(8, "a channel", false, x.isBroken(3));
        x.mend(0, 'f');
        checks.due(8, "mended", false, x.isBroken(0));
        checks.refused(8, "no stretch", x, Checks.INDEX, () -> x.isBroken(4));
        checks.refused(8, "no stretch", x, Checks.INDEX, () -> x.isBroken(-1));
    }

    private static void shut() {
        CuratorAquarum x = fourNodes();
        x.channel(0, 1, 1, 1);
        checks.due(9, "open at first", false, x.shut(0, false));
        checks.due(9, "it is shut", false, x.shut(0, true));
        x.month();
        checks.due(9, "nothing runs in", 0, x.gauge(0, false));
        checks.due(9, "all overflows", 1000, x.overflow(0));
        checks.due(9, "again", true, x.shut(0, true));
        checks.due(9, "it is opened", true, x.shut(0, false));
        x.month();
        checks.due(9, "as much as it takes", 100, x.gauge(0, false));
        checks.refused(9, "no stretch", x, Checks.INDEX, () -> x.shut(1, true));
        checks.refused(9, "no stretch", x, Checks.INDEX, () -> x.shut(-1, true));
    }

    private static void cuts() {
        CuratorAquarum x = fourNodes();
        x.channel(0, 1, 1, 1);
        checks.due(10, "whole at first", false, x.cut(0));
        checks.due(10, "broken", true, x.isBroken(0));
        checks.due(10, "again", true, x.cut(0));
        x.month();
        checks.due(10, "nothing runs in", 0, x.gauge(0, false));
        checks.refused(10, "no stretch", x, Checks.INDEX, () -> x.cut(1));
        checks.refused(10, "no stretch", x, Checks.INDEX, () -> x.cut(Integer.MIN_VALUE));
    }

    private static void holes() {
        CuratorAquarum x = fourNodes();
        x.channel(0, 1, 1, 1);
        checks.refused(11, "no stretch", x, Checks.INDEX, () -> x.hole(1, 0));
        checks.refused(11, "size 0", x, Checks.ARGUMENT, () -> x.hole(0, 0));
        checks.refused(11, "size 501", x, Checks.ARGUMENT, () -> x.hole(0, 501));
        checks.refused(11, "size", x, Checks.ARGUMENT, () -> x.hole(0, Integer.MIN_VALUE));
        for (int i = 1; i <= 5; i++) {
            checks.due(11, "how many", i, x.hole(0, i == 1 ? 500 : 1));
        }
        checks.refused(11, "sixth", x, Checks.STATE, () -> x.hole(0, 1));
        checks.refused(11, "sixth out of range", x, Checks.ARGUMENT, () -> x.hole(0, 501));
        x.care(100);
        checks.due(11, "all found", 5, x.roundAlong(0));
        checks.due(11, "room again", 1, x.hole(0, 20));
        x.month();
        checks.due(11, "it takes", 20, x.missing(0));
    }

    private static void rain() {
        CuratorAquarum x = fourNodes();
        checks.due(12, "none before", 0, x.rain(99));
        checks.due(12, "told twice", 99, x.rain(40));
        checks.refused(12, "rain -1", x, Checks.ARGUMENT, () -> x.rain(-1));
        checks.refused(12, "rain 100", x, Checks.ARGUMENT, () -> x.rain(100));
        x.month();
        checks.due(12, "cloud of a spring", 40, x.cloud(0));
        checks.due(12, "told for one month", 0, x.rain(0));
        x.month();
        checks.due(12, "without rain", 0, x.cloud(0));
    }
}
