import java.io.IOException;
import java.nio.file.Path;

/**
 * Each exception of each promise, each of its causes, and each two that apply at once; behind it the city
 * is compared in all with a twin that was not asked.
 */
public final class RefusedTest {
    private static final Checks checks = new Checks();

    public static void main(String[] args) throws IOException {
        springs();
        nodes();
        channels();
        siphons();
        stretchesThatAreNot();
        holesAndRain();
        nodesThatAreNot();
        levels();
        nothingMissing();
        orders();
        nozzles();
        nozzlesThatAreNot();
        closingAndWidening();
        measures();
        grants();
        grantsThatAreNot();
        deaths();
        enlisting();
        rounds();
        scraping();
        mending();
        lining();
        purses();
        sums();
        checks.allRefusalsAsked(Path.of(args.length > 0 ? args[0] : "../shared", "DOC.md"));
        checks.end();
    }

    private static void town(int promise, String what, Class<?> want, Checks.Asked call) {
        checks.leavesAll(promise, what, Town::built, want, call);
    }

    // Cities at their full counts

    private static CuratorAquarum fullOfNodes() {
        CuratorAquarum x = Town.built();
        for (int i = Town.NODES; i < 16; i++) {
            x.node('t', i);
        }
        return x;
    }

    private static CuratorAquarum fullOfStretches() {
        CuratorAquarum x = Town.built();
        for (int i = Town.STRETCHES; i < 20; i++) {
            x.channel(0, 2, 1, 1);
        }
        return x;
    }

    private static CuratorAquarum fullOfNozzles() {
        CuratorAquarum x = Town.built();
        for (int i = Town.NOZZLES; i < 24; i++) {
            x.nozzle(2, 'b', 5, 0);
        }
        return x;
    }

    private static CuratorAquarum fullOfHoles() {
        CuratorAquarum x = Town.built();
        for (int i = 2; i < 5; i++) {
            x.hole(0, i);
        }
        return x;
    }

    private static CuratorAquarum fullList() {
        CuratorAquarum x = Town.built();
        for (int i = 3; i < 12; i++) {
            x.enlist(10, i, 40);
        }
        return x;
    }

    /** Both purses hold 19: scraping stretch 0 and mending 8 cost 20 each, lining 6 or 7 again 21. */
    private static CuratorAquarum poorTown() {
        CuratorAquarum x = Town.built();
        x.siphon(0, 1, 64, 3, 0, 1);
        x.siphon(0, 1, 7, 1, 0, 1);
        x.siphon(0, 1, 7, 1, 0, 1);
        x.siphon(0, 1, 4, 1, 0, 1);
        x.cut(5);
        x.mend(5, 'f');
        x.cut(5);
        x.mend(5, 'e');
        x.line(6, 'f', 1);
        x.line(7, 'e', 1);
        x.cut(8);
        return x;
    }

    private static CuratorAquarum grantGivenBack() {
        CuratorAquarum x = Town.built();
        x.giveBack(1, 1);
        return x;
    }

    // Promises 2 to 12

    private static void springs() {
        town(2, "height below", Checks.ARGUMENT, x -> x.spring(-1, 10, 5, 5));
        town(2, "height above", Checks.ARGUMENT, x -> x.spring(1000, 10, 5, 5));
        town(2, "flow below", Checks.ARGUMENT, x -> x.spring(10, -1, 0, 5));
        town(2, "flow below, swing as low", Checks.ARGUMENT, x -> x.spring(10, -1, -1, 5));
        town(2, "flow above", Checks.ARGUMENT, x -> x.spring(10, 5001, 5, 5));
        town(2, "swing below", Checks.ARGUMENT, x -> x.spring(10, 10, -1, 5));
        town(2, "swing above the flow", Checks.ARGUMENT, x -> x.spring(10, 10, 11, 5));
        town(2, "swing of no flow", Checks.ARGUMENT, x -> x.spring(10, 0, 1, 5));
        town(2, "hardness below", Checks.ARGUMENT, x -> x.spring(10, 10, 5, -1));
        town(2, "hardness above", Checks.ARGUMENT, x -> x.spring(10, 10, 5, 10));
        checks.leavesAll(2, "17th", RefusedTest::fullOfNodes, Checks.STATE, x -> x.spring(10, 10, 5, 5));
        checks.leavesAll(2, "17th out of range", RefusedTest::fullOfNodes, Checks.ARGUMENT, x -> x.spring(10, 10, 5, 10));
    }

    private static void nodes() {
        town(3, "a spring", Checks.ARGUMENT, x -> x.node('s', 10));
        town(3, "no kind", Checks.ARGUMENT, x -> x.node('C', 10));
        town(3, "height below", Checks.ARGUMENT, x -> x.node('t', -1));
        town(3, "height above", Checks.ARGUMENT, x -> x.node('c', 1000));
        checks.leavesAll(3, "17th tank", RefusedTest::fullOfNodes, Checks.STATE, x -> x.node('t', 10));
        checks.leavesAll(3, "17th castle", RefusedTest::fullOfNodes, Checks.STATE, x -> x.node('c', 10));
        checks.leavesAll(3, "17th of no kind", RefusedTest::fullOfNodes, Checks.ARGUMENT, x -> x.node('s', 10));
        checks.leavesAll(3, "17th too high", RefusedTest::fullOfNodes, Checks.ARGUMENT, x -> x.node('t', 1000));
    }

    private static void channels() {
        town(4, "from below", Checks.INDEX, x -> x.channel(-1, 1, 1, 1));
        town(4, "from behind", Checks.INDEX, x -> x.channel(Town.NODES, 1, 1, 1));
        town(4, "to below", Checks.INDEX, x -> x.channel(0, -1, 1, 1));
        town(4, "to behind", Checks.INDEX, x -> x.channel(0, Town.NODES, 1, 1));
        town(4, "neither", Checks.INDEX, x -> x.channel(-1, -1, 1, 1));
        town(4, "no node and no length", Checks.INDEX, x -> x.channel(-1, 1, 0, 1));
        town(4, "no node and no width", Checks.INDEX, x -> x.channel(0, Town.NODES, 1, 0));
        town(4, "from a castle to no node", Checks.INDEX, x -> x.channel(2, Town.NODES, 1, 1));
        town(4, "from no node to a spring", Checks.INDEX, x -> x.channel(Town.NODES, 3, 1, 1));
        town(4, "length below", Checks.ARGUMENT, x -> x.channel(0, 1, 0, 1));
        town(4, "length above", Checks.ARGUMENT, x -> x.channel(0, 2, 100, 1));
        town(4, "width below", Checks.ARGUMENT, x -> x.channel(0, 1, 1, 0));
        town(4, "width above", Checks.ARGUMENT, x -> x.channel(0, 1, 1, 21));
        town(4, "no length, from a castle", Checks.ARGUMENT, x -> x.channel(2, 6, 0, 1));
        town(4, "no width, to a spring", Checks.ARGUMENT, x -> x.channel(1, 3, 1, 0));
        town(4, "no width, upwards", Checks.ARGUMENT, x -> x.channel(1, 0, 1, 0));
        town(4, "no width, too little fall", Checks.ARGUMENT, x -> x.channel(7, 6, 99, 0));
        town(4, "from a castle", Checks.UNSUPPORTED, x -> x.channel(2, 6, 1, 1));
        town(4, "to a spring", Checks.UNSUPPORTED, x -> x.channel(1, 3, 1, 1));
        town(4, "upwards", Checks.UNSUPPORTED, x -> x.channel(6, 2, 1, 1));
        town(4, "level", Checks.UNSUPPORTED, x -> x.channel(1, 4, 1, 1));
        town(4, "to itself", Checks.UNSUPPORTED, x -> x.channel(1, 1, 1, 1));
        town(4, "too little fall", Checks.UNSUPPORTED, x -> x.channel(7, 6, 99, 1));
        Checks.Maker full = RefusedTest::fullOfStretches;
        checks.leavesAll(4, "21st", full, Checks.STATE, x -> x.channel(0, 1, 1, 1));
        checks.leavesAll(4, "21st from no node", full, Checks.INDEX, x -> x.channel(-1, 1, 1, 1));
        checks.leavesAll(4, "21st to no node", full, Checks.INDEX, x -> x.channel(0, Town.NODES, 1, 1));
        checks.leavesAll(4, "21st of no length", full, Checks.ARGUMENT, x -> x.channel(0, 1, 0, 1));
        checks.leavesAll(4, "21st of no width", full, Checks.ARGUMENT, x -> x.channel(0, 1, 1, 0));
        checks.leavesAll(4, "21st upwards", full, Checks.UNSUPPORTED, x -> x.channel(1, 0, 1, 1));
        checks.leavesAll(4, "21st from a castle", full, Checks.UNSUPPORTED, x -> x.channel(2, 6, 1, 1));
        checks.leavesAll(4, "21st with too little fall", full, Checks.UNSUPPORTED, x -> x.channel(7, 6, 99, 1));
    }

    private static void siphons() {
        town(5, "from below", Checks.INDEX, x -> x.siphon(-1, 1, 1, 1, 1, 1));
        town(5, "from behind", Checks.INDEX, x -> x.siphon(Town.NODES, 1, 1, 1, 1, 1));
        town(5, "to below", Checks.INDEX, x -> x.siphon(0, -1, 1, 1, 1, 1));
        town(5, "to behind", Checks.INDEX, x -> x.siphon(0, Town.NODES, 1, 1, 1, 1));
        town(5, "no node and no length", Checks.INDEX, x -> x.siphon(-1, 1, 0, 1, 1, 1));
        town(5, "no node and no lead", Checks.INDEX, x -> x.siphon(0, Town.NODES, 1, 1, 1, 0));
        town(5, "from a castle to no node", Checks.INDEX, x -> x.siphon(2, Town.NODES, 1, 1, 1, 1));
        town(5, "from no node to a spring", Checks.INDEX, x -> x.siphon(Town.NODES, 3, 1, 1, 1, 1));
        town(5, "length below", Checks.ARGUMENT, x -> x.siphon(0, 1, 0, 1, 1, 1));
        town(5, "length above", Checks.ARGUMENT, x -> x.siphon(0, 1, 100, 1, 1, 1));
        town(5, "width below", Checks.ARGUMENT, x -> x.siphon(0, 1, 1, 0, 1, 1));
        town(5, "width above", Checks.ARGUMENT, x -> x.siphon(0, 1, 1, 21, 1, 1));
        town(5, "depth below", Checks.ARGUMENT, x -> x.siphon(0, 1, 1, 1, -1, 1));
        town(5, "depth above", Checks.ARGUMENT, x -> x.siphon(0, 1, 1, 1, 100, 1));
        town(5, "lead below", Checks.ARGUMENT, x -> x.siphon(0, 1, 1, 1, 1, 0));
        town(5, "lead above", Checks.ARGUMENT, x -> x.siphon(0, 1, 1, 1, 1, 21));
        town(5, "no lead, from a castle", Checks.ARGUMENT, x -> x.siphon(2, 6, 1, 1, 1, 0));
        town(5, "no depth, upwards", Checks.ARGUMENT, x -> x.siphon(1, 0, 1, 1, -1, 1));
        town(5, "no width, to a spring", Checks.ARGUMENT, x -> x.siphon(1, 3, 1, 0, 1, 1));
        town(5, "from a castle", Checks.UNSUPPORTED, x -> x.siphon(2, 6, 1, 1, 1, 1));
        town(5, "to a spring", Checks.UNSUPPORTED, x -> x.siphon(1, 3, 1, 1, 1, 1));
        town(5, "upwards", Checks.UNSUPPORTED, x -> x.siphon(6, 2, 1, 1, 1, 1));
        town(5, "level", Checks.UNSUPPORTED, x -> x.siphon(1, 4, 1, 1, 1, 1));
        town(5, "to itself", Checks.UNSUPPORTED, x -> x.siphon(4, 4, 1, 1, 1, 1));
        Checks.Maker full = RefusedTest::fullOfStretches;
        checks.leavesAll(5, "21st", full, Checks.STATE, x -> x.siphon(0, 1, 1, 1, 1, 1));
        checks.leavesAll(5, "21st to no node", full, Checks.INDEX, x -> x.siphon(0, Town.NODES, 1, 1, 1, 1));
        checks.leavesAll(5, "21st of no lead", full, Checks.ARGUMENT, x -> x.siphon(0, 1, 1, 1, 1, 0));
        checks.leavesAll(5, "21st upwards", full, Checks.UNSUPPORTED, x -> x.siphon(1, 0, 1, 1, 1, 1));
    }

    private static void stretchesThatAreNot() {
        for (int wrong : new int[] {Integer.MIN_VALUE, -1, Town.STRETCHES, 20, Integer.MAX_VALUE}) {
            town(6, "no stretch " + wrong, Checks.INDEX, x -> x.capacity(wrong));
            town(7, "no stretch " + wrong, Checks.INDEX, x -> x.crust(wrong));
            town(8, "no stretch " + wrong, Checks.INDEX, x -> x.isBroken(wrong));
            town(9, "no stretch " + wrong, Checks.INDEX, x -> x.shut(wrong, true));
            town(9, "no stretch to open " + wrong, Checks.INDEX, x -> x.shut(wrong, false));
            town(10, "no stretch " + wrong, Checks.INDEX, x -> x.cut(wrong));
            town(11, "no stretch " + wrong, Checks.INDEX, x -> x.hole(wrong, 1));
            town(21, "no stretch " + wrong, Checks.INDEX, x -> x.gauge(wrong, false));
            town(21, "no stretch at its end " + wrong, Checks.INDEX, x -> x.gauge(wrong, true));
            town(22, "no stretch " + wrong, Checks.INDEX, x -> x.missing(wrong));
            town(41, "no stretch " + wrong, Checks.INDEX, x -> x.roundAlong(wrong));
            town(44, "no stretch " + wrong, Checks.INDEX, x -> x.scrape(wrong, 'f'));
            town(45, "no stretch " + wrong, Checks.INDEX, x -> x.mend(wrong, 'f'));
            town(46, "no stretch " + wrong, Checks.INDEX, x -> x.line(wrong, 'f', 0));
        }
    }

    private static void holesAndRain() {
        town(11, "no stretch and no size", Checks.INDEX, x -> x.hole(Town.STRETCHES, 0));
        town(11, "size below", Checks.ARGUMENT, x -> x.hole(0, 0));
        town(11, "size above", Checks.ARGUMENT, x -> x.hole(0, 501));
        checks.leavesAll(11, "sixth", RefusedTest::fullOfHoles, Checks.STATE, x -> x.hole(0, 1));
        checks.leavesAll(11, "sixth of no size", RefusedTest::fullOfHoles, Checks.ARGUMENT, x -> x.hole(0, 0));
        checks.leavesAll(11, "sixth too large", RefusedTest::fullOfHoles, Checks.ARGUMENT, x -> x.hole(0, 501));
        town(12, "rain below", Checks.ARGUMENT, x -> x.rain(-1));
        town(12, "rain above", Checks.ARGUMENT, x -> x.rain(100));
    }

    // Promises 15 to 30

    private static void nodesThatAreNot() {
        for (int wrong : new int[] {Integer.MIN_VALUE, -1, Town.NODES, 16, Integer.MAX_VALUE}) {
            town(15, "no node " + wrong, Checks.INDEX, x -> x.water(wrong));
            town(16, "no node " + wrong, Checks.INDEX, x -> x.hardness(wrong));
            town(17, "no node " + wrong, Checks.INDEX, x -> x.cloud(wrong));
            town(18, "no node " + wrong, Checks.INDEX, x -> x.overflow(wrong));
            town(19, "no node " + wrong, Checks.INDEX, x -> x.level(wrong, 'b'));
            town(19, "no node and no chamber " + wrong, Checks.INDEX, x -> x.level(wrong, 'x'));
            town(20, "no node " + wrong, Checks.INDEX, x -> x.waste(wrong));
            town(24, "no node " + wrong, Checks.INDEX, x -> x.order(wrong, 0));
            town(24, "no node and no order " + wrong, Checks.INDEX, x -> x.order(wrong, 6));
            town(25, "no node " + wrong, Checks.INDEX, x -> x.nozzle(wrong, 'b', 5, 0));
            town(42, "no node " + wrong, Checks.INDEX, x -> x.roundOf(wrong));
        }
    }

    private static void levels() {
        town(19, "no chamber", Checks.ARGUMENT, x -> x.level(2, 'c'));
        town(19, "no chamber of a tank", Checks.ARGUMENT, x -> x.level(1, 'c'));
        town(19, "no chamber of a spring", Checks.ARGUMENT, x -> x.level(0, 'B'));
        town(19, "a tank", Checks.UNSUPPORTED, x -> x.level(1, 'b'));
        town(19, "a spring", Checks.UNSUPPORTED, x -> x.level(0, 'h'));
        town(20, "a tank", Checks.UNSUPPORTED, x -> x.waste(1));
        town(20, "a spring", Checks.UNSUPPORTED, x -> x.waste(0));
    }

    private static CuratorAquarum withoutHoles() {
        CuratorAquarum x = Town.built();
        x.care(100);
        x.roundAlong(0);
        x.roundAlong(1);
        x.month();
        return x;
    }

    private static void nothingMissing() {
        checks.leavesAll(23, "nothing", RefusedTest::withoutHoles, Checks.NOTHING, CuratorAquarum::suspect);
        checks.leavesAll(23, "no stretches", CuratorAquarum::new, Checks.NOTHING, CuratorAquarum::suspect);
    }

    private static void orders() {
        town(24, "order below", Checks.ARGUMENT, x -> x.order(2, -1));
        town(24, "order above", Checks.ARGUMENT, x -> x.order(2, 6));
        town(24, "order above, of a tank", Checks.ARGUMENT, x -> x.order(1, 6));
        town(24, "a tank", Checks.UNSUPPORTED, x -> x.order(1, 5));
        town(24, "a spring", Checks.UNSUPPORTED, x -> x.order(0, 0));
    }

    private static void nozzles() {
        town(25, "no node and no chamber", Checks.INDEX, x -> x.nozzle(Town.NODES, 'x', 5, 0));
        town(25, "no node and no bore", Checks.INDEX, x -> x.nozzle(-1, 'b', 4, 0));
        town(25, "no chamber", Checks.ARGUMENT, x -> x.nozzle(2, 'c', 5, 0));
        town(25, "bore below", Checks.ARGUMENT, x -> x.nozzle(2, 'b', 4, 0));
        town(25, "bore above", Checks.ARGUMENT, x -> x.nozzle(2, 'b', 41, 0));
        town(25, "height below", Checks.ARGUMENT, x -> x.nozzle(2, 'h', 5, -1));
        town(25, "height above", Checks.ARGUMENT, x -> x.nozzle(2, 'h', 5, 91));
        town(25, "no chamber of a tank", Checks.ARGUMENT, x -> x.nozzle(1, 'c', 5, 0));
        town(25, "no bore at a tank", Checks.ARGUMENT, x -> x.nozzle(1, 'b', 41, 0));
        town(25, "a height above at a spring", Checks.ARGUMENT, x -> x.nozzle(0, 'b', 5, 91));
        town(25, "a tank", Checks.UNSUPPORTED, x -> x.nozzle(1, 'b', 5, 0));
        town(25, "a spring", Checks.UNSUPPORTED, x -> x.nozzle(0, 'h', 5, 0));
        Checks.Maker full = RefusedTest::fullOfNozzles;
        checks.leavesAll(25, "25th", full, Checks.STATE, x -> x.nozzle(2, 'b', 5, 0));
        checks.leavesAll(25, "25th at another castle", full, Checks.STATE, x -> x.nozzle(5, 'h', 5, 0));
        checks.leavesAll(25, "25th at no node", full, Checks.INDEX, x -> x.nozzle(Town.NODES, 'b', 5, 0));
        checks.leavesAll(25, "25th at no chamber", full, Checks.ARGUMENT, x -> x.nozzle(2, 'x', 5, 0));
        checks.leavesAll(25, "25th of no bore", full, Checks.ARGUMENT, x -> x.nozzle(2, 'b', 4, 0));
        checks.leavesAll(25, "25th at a tank", full, Checks.UNSUPPORTED, x -> x.nozzle(1, 'b', 5, 0));
    }

    private static void nozzlesThatAreNot() {
        for (int wrong : new int[] {Integer.MIN_VALUE, -1, Town.NOZZLES, 24, Integer.MAX_VALUE}) {
            town(26, "no nozzle " + wrong, Checks.INDEX, x -> x.close(wrong, true));
            town(26, "no nozzle to open " + wrong, Checks.INDEX, x -> x.close(wrong, false));
            town(27, "no nozzle " + wrong, Checks.INDEX, x -> x.widen(wrong, 40));
            town(27, "no nozzle and no bore " + wrong, Checks.INDEX, x -> x.widen(wrong, 61));
            town(28, "no nozzle " + wrong, Checks.INDEX, x -> x.given(wrong));
            town(29, "no nozzle " + wrong, Checks.INDEX, x -> x.stolen(wrong));
            town(31, "no nozzle " + wrong, Checks.INDEX, x -> x.grant(5, 5, wrong));
            town(31, "no nozzle, no person " + wrong, Checks.INDEX, x -> x.grant(30, 5, wrong));
            town(31, "no nozzle, no house " + wrong, Checks.INDEX, x -> x.grant(5, -1, wrong));
            town(31, "no nozzle for a dead one " + wrong, Checks.INDEX, x -> x.grant(3, 5, wrong));
            town(31, "no nozzle, who has one " + wrong, Checks.INDEX, x -> x.grant(1, 1, wrong));
            town(33, "no nozzle " + wrong, Checks.INDEX, x -> x.holder(wrong));
        }
    }

    private static void closingAndWidening() {
        town(26, "without a holder", Checks.UNSUPPORTED, x -> x.close(3, false));
        town(26, "without a holder, shut as it is", Checks.UNSUPPORTED, x -> x.close(3, true));
        checks.leavesAll(26, "given back", RefusedTest::grantGivenBack, Checks.UNSUPPORTED, x -> x.close(2, false));
        town(27, "below the stamped one", Checks.ARGUMENT, x -> x.widen(0, 9));
        town(27, "above 60", Checks.ARGUMENT, x -> x.widen(0, 61));
        town(27, "below the stamped one of a widened nozzle", Checks.ARGUMENT, x -> x.widen(1, 19));
    }

    private static void measures() {
        for (char way : new char[] {'d', 'c'}) {
            town(30, "quarters below", Checks.ARGUMENT, x -> x.measure(way, 0));
            town(30, "quarters above", Checks.ARGUMENT, x -> x.measure(way, 1000));
        }
        town(30, "no way", Checks.ARGUMENT, x -> x.measure('e', 20));
    }

    // Promises 31 to 38

    private static void grants() {
        town(31, "person below", Checks.ARGUMENT, x -> x.grant(-1, 5, 3));
        town(31, "person above", Checks.ARGUMENT, x -> x.grant(30, 5, 3));
        town(31, "house below", Checks.ARGUMENT, x -> x.grant(5, -1, 3));
        town(31, "house above", Checks.ARGUMENT, x -> x.grant(5, 30, 3));
        town(31, "a dead one for no house", Checks.ARGUMENT, x -> x.grant(3, 30, 3));
        town(31, "no person, nozzle of basins", Checks.ARGUMENT, x -> x.grant(30, 5, 0));
        town(31, "no house, nozzle with a holder", Checks.ARGUMENT, x -> x.grant(5, 30, 2));
        town(31, "a dead one", Checks.UNSUPPORTED, x -> x.grant(3, 5, 3));
        town(31, "who has one for that house", Checks.UNSUPPORTED, x -> x.grant(1, 1, 3));
        town(31, "of basins", Checks.UNSUPPORTED, x -> x.grant(5, 5, 0));
        town(31, "of baths", Checks.UNSUPPORTED, x -> x.grant(5, 5, 1));
        town(31, "with a holder", Checks.UNSUPPORTED, x -> x.grant(5, 5, 2));
        town(31, "with himself as holder, for another house", Checks.UNSUPPORTED, x -> x.grant(1, 5, 2));
    }

    private static void grantsThatAreNot() {
        for (int wrong : new int[] {Integer.MIN_VALUE, -1, 30, Integer.MAX_VALUE}) {
            town(32, "no person " + wrong, Checks.ARGUMENT, x -> x.granted(wrong, 1));
            town(32, "no house " + wrong, Checks.ARGUMENT, x -> x.granted(1, wrong));
            town(34, "no person " + wrong, Checks.ARGUMENT, x -> x.giveBack(wrong, 1));
            town(34, "no house " + wrong, Checks.ARGUMENT, x -> x.giveBack(1, wrong));
            town(36, "no house " + wrong, Checks.ARGUMENT, x -> x.sell(wrong));
        }
        town(32, "who has another house", Checks.NOTHING, x -> x.granted(1, 2));
        town(32, "another's house", Checks.NOTHING, x -> x.granted(4, 1));
        town(32, "who waits for it", Checks.NOTHING, x -> x.granted(4, 2));
        town(32, "a dead one", Checks.NOTHING, x -> x.granted(3, 3));
        town(33, "of houses without one", Checks.NOTHING, x -> x.holder(3));
        town(33, "of basins", Checks.NOTHING, x -> x.holder(0));
        town(33, "of baths", Checks.NOTHING, x -> x.holder(1));
        town(34, "who has another house", Checks.NOTHING, x -> x.giveBack(1, 2));
        town(34, "another's house", Checks.NOTHING, x -> x.giveBack(4, 1));
        town(34, "who waits for it", Checks.NOTHING, x -> x.giveBack(4, 2));
        town(34, "a dead one", Checks.NOTHING, x -> x.giveBack(3, 3));
    }

    private static void deaths() {
        for (int wrong : new int[] {Integer.MIN_VALUE, -1, 30, Integer.MAX_VALUE}) {
            town(35, "no person " + wrong, Checks.ARGUMENT, x -> x.die(wrong));
        }
        town(35, "who is dead", Checks.UNSUPPORTED, x -> x.die(3));
    }

    private static void enlisting() {
        town(37, "person below", Checks.ARGUMENT, x -> x.enlist(-1, 5, 5));
        town(37, "person above", Checks.ARGUMENT, x -> x.enlist(30, 5, 5));
        town(37, "house below", Checks.ARGUMENT, x -> x.enlist(5, -1, 5));
        town(37, "house above", Checks.ARGUMENT, x -> x.enlist(5, 30, 5));
        town(37, "bore below", Checks.ARGUMENT, x -> x.enlist(5, 5, 4));
        town(37, "bore above", Checks.ARGUMENT, x -> x.enlist(5, 5, 41));
        town(37, "a dead one for no house", Checks.ARGUMENT, x -> x.enlist(3, 30, 5));
        town(37, "a dead one for no bore", Checks.ARGUMENT, x -> x.enlist(3, 5, 41));
        town(37, "a dead one", Checks.UNSUPPORTED, x -> x.enlist(3, 5, 5));
        checks.leavesAll(37, "13th", RefusedTest::fullList, Checks.STATE, x -> x.enlist(5, 5, 5));
        checks.leavesAll(37, "13th, a dead one", RefusedTest::fullList, Checks.UNSUPPORTED, x -> x.enlist(3, 5, 5));
        checks.leavesAll(37, "13th, no person", RefusedTest::fullList, Checks.ARGUMENT, x -> x.enlist(30, 5, 5));
        checks.leavesAll(37, "13th, no bore", RefusedTest::fullList, Checks.ARGUMENT, x -> x.enlist(5, 5, 4));
    }

    // Promises 39 to 51

    private static void rounds() {
        town(39, "care below", Checks.ARGUMENT, x -> x.care(-1));
        town(39, "care above", Checks.ARGUMENT, x -> x.care(101));
        town(40, "z below", Checks.ARGUMENT, x -> x.seed(0));
        town(40, "z far below", Checks.ARGUMENT, x -> x.seed(-1));
        town(40, "z above", Checks.ARGUMENT, x -> x.seed(2147483647));
        town(42, "a tank", Checks.UNSUPPORTED, x -> x.roundOf(1));
        town(42, "a spring", Checks.UNSUPPORTED, x -> x.roundOf(0));
    }

    private static CuratorAquarum townInSummer(int next) {
        CuratorAquarum x = Town.built();
        for (int i = 2; i < next; i++) {
            x.month();
        }
        return x;
    }

    private static void scraping() {
        town(44, "no stretch and no gang", Checks.INDEX, x -> x.scrape(Town.STRETCHES, 'g'));
        town(44, "no gang", Checks.ARGUMENT, x -> x.scrape(0, 'F'));
        town(44, "no gang for a siphon", Checks.ARGUMENT, x -> x.scrape(1, 'g'));
        town(44, "no gang for no crust", Checks.ARGUMENT, x -> x.scrape(2, 'g'));
        town(44, "a siphon", Checks.UNSUPPORTED, x -> x.scrape(1, 'f'));
        town(44, "no crust", Checks.UNSUPPORTED, x -> x.scrape(2, 'f'));
        for (int next : new int[] {5, 6, 7, 17, 18, 19}) {
            Checks.Maker inSummer = () -> townInSummer(next);
            checks.leavesAll(44, "summer " + next, inSummer, Checks.UNSUPPORTED, x -> x.scrape(0, 'f'));
            checks.leavesAll(44, "no gang in summer", inSummer, Checks.ARGUMENT, x -> x.scrape(0, 'g'));
            checks.leavesAll(44, "no stretch in summer", inSummer, Checks.INDEX, x -> x.scrape(-1, 'f'));
        }
        for (char gang : new char[] {'f', 'e'}) {
            checks.due(44, "what a poor purse has", 19, poorTown().purse(gang, 0));
            checks.leavesAll(44, "a poor purse", RefusedTest::poorTown, Checks.UNSUPPORTED, x -> x.scrape(0, gang));
            checks.leavesAll(45, "a poor purse", RefusedTest::poorTown, Checks.UNSUPPORTED, x -> x.mend(8, gang));
            checks.leavesAll(46, "a poor purse", RefusedTest::poorTown, Checks.UNSUPPORTED, x -> x.line(gang == 'f' ? 6 : 7, gang, 0));
        }
        checks.leavesAll(44, "no gang in a poor town", RefusedTest::poorTown, Checks.ARGUMENT, x -> x.scrape(0, 'g'));
    }

    private static void mending() {
        town(45, "no stretch and no gang", Checks.INDEX, x -> x.mend(Town.STRETCHES, 'g'));
        town(45, "no gang", Checks.ARGUMENT, x -> x.mend(3, 'E'));
        town(45, "no gang for a whole one", Checks.ARGUMENT, x -> x.mend(0, 'g'));
        town(45, "not needed", Checks.UNSUPPORTED, x -> x.mend(0, 'f'));
        checks.leavesAll(45, "no gang in a poor town", RefusedTest::poorTown, Checks.ARGUMENT, x -> x.mend(8, 'g'));
    }

    private static void lining() {
        town(46, "no stretch and no gang", Checks.INDEX, x -> x.line(Town.STRETCHES, 'g', 0));
        town(46, "no stretch and no leak", Checks.INDEX, x -> x.line(-1, 'f', 21));
        town(46, "no gang", Checks.ARGUMENT, x -> x.line(0, 'g', 0));
        town(46, "leak below", Checks.ARGUMENT, x -> x.line(0, 'f', -1));
        town(46, "leak above", Checks.ARGUMENT, x -> x.line(0, 'f', 21));
        town(46, "no gang for a like leak", Checks.ARGUMENT, x -> x.line(0, 'g', 2));
        town(46, "a like leak", Checks.UNSUPPORTED, x -> x.line(0, 'f', 2));
        town(46, "a greater one", Checks.UNSUPPORTED, x -> x.line(0, 'f', 3));
        town(46, "the greatest one", Checks.UNSUPPORTED, x -> x.line(0, 'f', 20));
        checks.leavesAll(46, "no leak in a poor town", RefusedTest::poorTown, Checks.ARGUMENT, x -> x.line(6, 'f', 21));
    }

    private static void purses() {
        town(47, "no gang", Checks.ARGUMENT, x -> x.purse('g', 5));
        town(47, "more below", Checks.ARGUMENT, x -> x.purse('f', -1));
        town(47, "more above", Checks.ARGUMENT, x -> x.purse('e', 10000));
    }

    private static void sums() {
        town(48, "no account", Checks.ARGUMENT, x -> x.account('a'));
        checks.leavesAll(50, "no nozzles", CuratorAquarum::new, Checks.NOTHING, CuratorAquarum::heldShare);
        checks.leavesAll(51, "no stretches", CuratorAquarum::new, Checks.NOTHING, CuratorAquarum::meanLength);
    }
}
