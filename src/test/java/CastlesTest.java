/** Promises 24 to 30: castles, nozzles and measures. */
public final class CastlesTest {
    private static final Checks checks = new Checks();

    public static void main(String[] args) {
        orders();
        ordersRefused();
        nozzles();
        nozzlesRefused();
        closing();
        widening();
        givenAndStolen();
        sharedLevel();
        measures();
        checks.end();
    }

    /** A spring of so much, a castle below it, a nozzle at each chamber, that of houses granted. */
    private static CuratorAquarum city(int flow) {
        CuratorAquarum x = new CuratorAquarum();
        x.spring(999, flow, 0, 0);
        x.node('c', 0);
        x.node('t', 0);
        x.siphon(0, 1, 1, 20, 0, 1);
        x.line(0, 'f', 0);
        x.nozzle(1, 'b', 10, 0);
        x.nozzle(1, 'a', 10, 0);
        x.nozzle(1, 'h', 10, 0);
        x.grant(0, 0, 2);
        return x;
    }

    /** With water for one chamber and a half, the last one of each order stays dry. */
    private static void orders() {
        String[] sequences = {"bah", "bha", "abh", "ahb", "hba", "hab"};
        CuratorAquarum x = city(300);
        for (int i = 0; i < sequences.length; i++) {
            checks.due(24, "the order before", Math.max(0, i - 1), x.order(1, i));
            x.month();
            checks.due(24, "first of " + sequences[i], 100, x.level(1, sequences[i].charAt(0)));
            checks.due(24, "second of " + sequences[i], 50, x.level(1, sequences[i].charAt(1)));
            checks.due(24, "third of " + sequences[i], 0, x.level(1, sequences[i].charAt(2)));
        }
        checks.due(24, "the last order", 5, x.order(1, 0));
    }

    private static void ordersRefused() {
        CuratorAquarum x = city(300);
        for (int wrong : new int[] {Integer.MIN_VALUE, -1, 6, Integer.MAX_VALUE}) {
            checks.refused(24, "no order", x, Checks.ARGUMENT, () -> x.order(1, wrong));
            checks.refused(24, "no order and no castle", x, Checks.ARGUMENT, () -> x.order(0, wrong));
            checks.refused(24, "no order and no node", x, Checks.INDEX, () -> x.order(3, wrong));
            checks.refused(24, "no node", x, Checks.INDEX, () -> x.order(wrong < 6 ? -1 : wrong, 0));
        }
        checks.refused(24, "spring", x, Checks.UNSUPPORTED, () -> x.order(0, 1));
        checks.refused(24, "tank", x, Checks.UNSUPPORTED, () -> x.order(2, 1));
        checks.due(24, "nothing changed", 0, x.order(1, 0));
    }

    private static void nozzles() {
        CuratorAquarum x = city(300);
        checks.due(25, "least", 3, x.nozzle(1, 'b', 5, 0));
        checks.due(25, "greatest", 4, x.nozzle(1, 'a', 40, 90));
        checks.due(25, "of houses", 5, x.nozzle(1, 'h', 40, 0));
        checks.due(25, "open", false, x.close(3, false));
        checks.refused(25, "without a holder", x, Checks.NOTHING, () -> x.holder(5));
        x.grant(3, 3, 5);
        checks.due(25, "open when granted", false, x.close(5, true));
        for (int i = 6; i < 24; i++) {
            checks.due(25, "number", i, x.nozzle(1, 'h', 20, 10));
        }
        checks.refused(25, "25th", x, Checks.STATE, () -> x.nozzle(1, 'b', 10, 0));
        checks.refused(25, "25th at a tank", x, Checks.UNSUPPORTED, () -> x.nozzle(2, 'b', 10, 0));
        checks.refused(25, "25th out of range", x, Checks.ARGUMENT, () -> x.nozzle(1, 'b', 41, 0));
    }

    private static void nozzlesRefused() {
        CuratorAquarum x = city(300);
        for (int wrong : new int[] {Integer.MIN_VALUE, -1, 3, Integer.MAX_VALUE}) {
            checks.refused(25, "no node", x, Checks.INDEX, () -> x.nozzle(wrong, 'x', 0, -1));
        }
        for (int node = 0; node < 3; node++) {
            int at = node;
            checks.refused(25, "chamber", x, Checks.ARGUMENT, () -> x.nozzle(at, 'c', 10, 0));
            checks.refused(25, "chamber", x, Checks.ARGUMENT, () -> x.nozzle(at, (char) 65535, 10, 0));
            checks.refused(25, "bore 4", x, Checks.ARGUMENT, () -> x.nozzle(at, 'b', 4, 0));
            checks.refused(25, "bore 41", x, Checks.ARGUMENT, () -> x.nozzle(at, 'a', 41, 0));
            checks.refused(25, "height -1", x, Checks.ARGUMENT, () -> x.nozzle(at, 'h', 10, -1));
            checks.refused(25, "height 91", x, Checks.ARGUMENT, () -> x.nozzle(at, 'h', 10, 91));
        }
        checks.refused(25, "spring", x, Checks.UNSUPPORTED, () -> x.nozzle(0, 'b', 10, 0));
        checks.refused(25, "tank", x, Checks.UNSUPPORTED, () -> x.nozzle(2, 'b', 10, 0));
        checks.due(25, "nothing was added", 3, x.nozzle(1, 'b', 10, 0));
    }

    private static void closing() {
        CuratorAquarum x = city(1000);
        x.nozzle(1, 'h', 20, 0);
        checks.refused(26, "without a holder", x, Checks.UNSUPPORTED, () -> x.close(3, true));
        checks.refused(26, "without a holder", x, Checks.UNSUPPORTED, () -> x.close(3, false));
        checks.due(26, "of basins", false, x.close(0, true));
        checks.due(26, "again", true, x.close(0, true));
        checks.due(26, "of houses with a holder", false, x.close(2, true));
        x.month();
        checks.due(26, "a shut one gives nothing", 0, x.given(0));
        checks.due(26, "the level without open ones", 100, x.level(1, 'b'));
        checks.due(26, "all but the baths' is waste", 800, x.waste(1));
        checks.due(26, "opened", true, x.close(0, false));
        checks.due(26, "it gives at once", 200, x.given(0));
        for (int wrong : new int[] {Integer.MIN_VALUE, -1, 4, Integer.MAX_VALUE}) {
            checks.refused(26, "no nozzle", x, Checks.INDEX, () -> x.close(wrong, true));
        }
        x.giveBack(0, 0);
        checks.refused(26, "given back", x, Checks.UNSUPPORTED, () -> x.close(2, false));
        endedGrantsGiveNothing();
    }

    private static void endedGrantsGiveNothing() {
        CuratorAquarum x = city(1000);
        x.month();
        checks.due(31, "granted", 200, x.given(2));
        x.giveBack(0, 0);
        checks.due(34, "given back", 0, x.given(2));
        x.grant(0, 0, 2);
        checks.due(31, "granted again", 200, x.given(2));
        x.sell(0);
        checks.due(36, "sold", 0, x.given(2));
        x.grant(0, 0, 2);
        x.die(0);
        checks.due(35, "died", 0, x.given(2));
        x.enlist(1, 1, 5);
        x.deal();
        checks.due(38, "dealt", 200, x.given(2));
    }

    private static void widening() {
        CuratorAquarum x = city(1000);
        checks.due(27, "the stamped one before", 10, x.widen(0, 60));
        checks.due(27, "the real one before", 60, x.widen(0, 30));
        checks.due(27, "to the stamped one", 30, x.widen(0, 10));
        checks.due(27, "one without a holder", 20, x.widen(x.nozzle(1, 'h', 20, 0), 21));
        checks.refused(27, "below the stamped one", x, Checks.ARGUMENT, () -> x.widen(0, 9));
        checks.refused(27, "below the stamped one", x, Checks.ARGUMENT, () -> x.widen(3, 19));
        checks.refused(27, "above 60", x, Checks.ARGUMENT, () -> x.widen(0, 61));
        checks.refused(27, "far below", x, Checks.ARGUMENT, () -> x.widen(0, Integer.MIN_VALUE));
        checks.refused(27, "no nozzle", x, Checks.INDEX, () -> x.widen(4, 61));
        checks.refused(27, "no nozzle", x, Checks.INDEX, () -> x.widen(-1, 61));
        checks.due(27, "nothing changed", 10, x.widen(0, 20));
        x.month();
        checks.due(27, "it gives by the real one", 800, x.given(0));
        checks.due(27, "theft", 600, x.account('t'));
        checks.due(27, "use by the stamp", 200 + 200, x.account('u'));
    }

    private static void givenAndStolen() {
        CuratorAquarum x = city(0);
        x.nozzle(1, 'b', 7, 33);
        checks.due(28, "before any", 0, x.given(0));
        checks.due(29, "before any", 0, x.stolen(0));
        x.month();
        checks.due(28, "without water", 0, x.given(0));
        CuratorAquarum y = city(100);
        y.nozzle(1, 'b', 7, 33);
        y.month();
        checks.due(19, "two nozzles", 44, y.level(1, 'b'));
        checks.due(28, "at 44", 88, y.given(0));
        checks.due(28, "at 44, above 33", 49 * 11 / 50, y.given(3));
        checks.due(29, "as stamped", 0, y.stolen(3));
        y.widen(3, 60);
        checks.due(28, "as it is now", 3600 * 11 / 50, y.given(3));
        checks.due(29, "beyond the stamp", 3600 * 11 / 50 - 49 * 11 / 50, y.stolen(3));
        y.close(3, true);
        checks.due(28, "shut", 0, y.given(3));
        checks.due(29, "shut", 0, y.stolen(3));
        checks.due(28, "at the level as its height", 0, y.given(y.nozzle(1, 'b', 40, 44)));
        checks.due(28, "just above its height", 32, y.given(y.nozzle(1, 'b', 40, 43)));
        for (int wrong : new int[] {Integer.MIN_VALUE, -1, 6, Integer.MAX_VALUE}) {
            checks.refused(28, "no nozzle", y, Checks.INDEX, () -> y.given(wrong));
            checks.refused(29, "no nozzle", y, Checks.INDEX, () -> y.stolen(wrong));
        }
    }

    /** Nozzles of another castle or another chamber have nothing to do with a level. */
    private static void sharedLevel() {
        CuratorAquarum x = city(213);
        x.node('c', 5);
        x.nozzle(3, 'b', 40, 0);
        x.nozzle(1, 'b', 40, 90);
        x.month();
        checks.due(19, "one more would give 214", 90, x.level(1, 'b'));
        checks.due(15, "without a stretch", 0, x.water(3));
        checks.due(19, "dry", 0, x.level(3, 'b'));
        checks.due(19, "the rest goes on", 16, x.level(1, 'a'));
        checks.due(19, "one is too little", 0, x.level(1, 'h'));
        checks.due(20, "and is left", 1, x.waste(1));
        x.shut(0, true);
        x.spring(999, 214, 0, 0);
        x.siphon(4, 1, 1, 20, 0, 1);
        x.line(1, 'f', 0);
        x.month();
        checks.due(19, "just enough for it", 91, x.level(1, 'b'));
        checks.due(20, "nothing is left", 0, x.waste(1));
    }

    private static void measures() {
        checks.due(30, "d 1", 0, new CuratorAquarum().measure('d', 1));
        checks.due(30, "d 5", 1, new CuratorAquarum().measure('d', 5));
        checks.due(30, "d 20", 16, new CuratorAquarum().measure('d', 20));
        checks.due(30, "d 999", 39920, new CuratorAquarum().measure('d', 999));
        checks.due(30, "c 1", 0, new CuratorAquarum().measure('c', 1));
        checks.due(30, "c 15", 0, new CuratorAquarum().measure('c', 15));
        checks.due(30, "c 16", 1, new CuratorAquarum().measure('c', 16));
        checks.due(30, "c 110", 49, new CuratorAquarum().measure('c', 110));
        checks.due(30, "c 999", 4041, new CuratorAquarum().measure('c', 999));
        CuratorAquarum x = new CuratorAquarum();
        for (char way : new char[] {'d', 'c'}) {
            for (int wrong : new int[] {Integer.MIN_VALUE, -1, 0, 1000, Integer.MAX_VALUE}) {
                checks.refused(30, "quarters", x, Checks.ARGUMENT, () -> x.measure(way, wrong));
            }
        }
        for (char wrong : new char[] {'D', 'r', (char) 0, (char) 65535}) {
            checks.refused(30, "way", x, Checks.ARGUMENT, () -> x.measure(wrong, 20));
        }
    }
}
