/** Of each number and each sign that a call takes: the least, the greatest, and what stands just beside them. */
public final class BoundsTest {
    private static final Checks checks = new Checks();

    private interface WithNumber {
        Object of(CuratorAquarum city, int number);
    }

    private interface WithSign {
        Object of(CuratorAquarum city, char sign);
    }

    public static void main(String[] args) {
        netNumbers();
        castleNumbers();
        peopleNumbers();
        roundNumbers();
        nodeNumbers();
        stretchNumbers();
        nozzleNumbers();
        signs();
        checks.end();
    }

    /** Numbers of the range are answered, those beside it throw what is due. */
    private static void range(int promise, String what, int least, int most, Class<?> due, WithNumber call) {
        for (int good : new int[] {least, least + (most - least) / 2, most}) {
            checks.due(promise, what + " " + good, false, isRefused(good, call));
        }
        for (int bad : new int[] {Integer.MIN_VALUE, least - 1, most + 1, Integer.MAX_VALUE}) {
            checks.leavesAll(promise, what + " " + bad, Town::built, due, x -> call.of(x, bad));
        }
    }

    private static boolean isRefused(int number, WithNumber call) {
        CuratorAquarum x = Town.built();
        return Checks.outcome(() -> call.of(x, number)) instanceof String;
    }

    private static void argument(int promise, String what, int least, int most, WithNumber call) {
        range(promise, what, least, most, Checks.ARGUMENT, call);
    }

    private static void netNumbers() {
        argument(2, "height", 0, 999, (x, n) -> x.spring(n, 10, 5, 5));
        argument(2, "flow", 0, 5000, (x, n) -> x.spring(10, n, 0, 5));
        argument(2, "swing of a flow of 1234", 0, 1234, (x, n) -> x.spring(10, 1234, n, 5));
        argument(2, "swing of the greatest flow", 0, 5000, (x, n) -> x.spring(10, 5000, n, 5));
        argument(2, "swing of no flow", 0, 0, (x, n) -> x.spring(10, 0, n, 5));
        argument(2, "hardness", 0, 9, (x, n) -> x.spring(10, 10, 5, n));
        argument(3, "height of a tank", 0, 999, (x, n) -> x.node('t', n));
        argument(3, "height of a castle", 0, 999, (x, n) -> x.node('c', n));
        argument(4, "length", 1, 99, (x, n) -> x.channel(0, 2, n, 1));
        argument(4, "width", 1, 20, (x, n) -> x.channel(0, 2, 1, n));
        argument(5, "length", 1, 99, (x, n) -> x.siphon(0, 2, n, 1, 1, 1));
        argument(5, "width", 1, 20, (x, n) -> x.siphon(0, 2, 1, n, 1, 1));
        argument(5, "depth", 0, 99, (x, n) -> x.siphon(0, 2, 1, 1, n, 1));
        argument(5, "lead", 1, 20, (x, n) -> x.siphon(0, 2, 1, 1, 1, n));
        argument(11, "size", 1, 500, (x, n) -> x.hole(2, n));
        argument(12, "rain", 0, 99, (x, n) -> x.rain(n));
    }

    private static void castleNumbers() {
        argument(24, "order", 0, 5, (x, n) -> x.order(2, n));
        for (char chamber : new char[] {'b', 'a', 'h'}) {
            argument(25, "bore", 5, 40, (x, n) -> x.nozzle(2, chamber, n, 0));
            argument(25, "height", 0, 90, (x, n) -> x.nozzle(2, chamber, 5, n));
        }
        argument(27, "of a stamped 10", 10, 60, (x, n) -> x.widen(0, n));
        argument(27, "of a stamped 20, widened before", 20, 60, (x, n) -> x.widen(1, n));
        argument(27, "of a stamped 40", 40, 60, (x, n) -> x.widen(6, n));
        argument(30, "diameter", 1, 999, (x, n) -> x.measure('d', n));
        argument(30, "round", 1, 999, (x, n) -> x.measure('c', n));
    }

    private static void peopleNumbers() {
        argument(31, "person", 0, 29, (x, n) -> x.grant(n, 5, 3));
        argument(31, "house", 0, 29, (x, n) -> x.grant(5, n, 3));
        argument(32, "person", 0, 29, (x, n) -> grantedToAnyone(x, n, 17));
        argument(32, "house", 0, 29, (x, n) -> grantedToAnyone(x, 17, n));
        argument(34, "person", 0, 29, (x, n) -> givenBackByAnyone(x, n, 17));
        argument(34, "house", 0, 29, (x, n) -> givenBackByAnyone(x, 17, n));
        argument(35, "person", 0, 29, (x, n) -> x.die(n));
        argument(36, "house", 0, 29, (x, n) -> x.sell(n));
        argument(37, "person", 0, 29, (x, n) -> x.enlist(n, 5, 5));
        argument(37, "house", 0, 29, (x, n) -> x.enlist(5, n, 5));
        argument(37, "bore", 5, 40, (x, n) -> x.enlist(5, 5, n));
    }

    private static Object grantedToAnyone(CuratorAquarum x, int person, int house) {
        if (person >= 0 && person < 30 && house >= 0 && house < 30) {
            x.grant(person, house, 3);
        }
        return x.granted(person, house);
    }

    private static Object givenBackByAnyone(CuratorAquarum x, int person, int house) {
        if (person >= 0 && person < 30 && house >= 0 && house < 30) {
            x.grant(person, house, 3);
        }
        return x.giveBack(person, house);
    }

    private static void roundNumbers() {
        argument(39, "care", 0, 100, (x, n) -> x.care(n));
        for (int good : new int[] {1, 2, 1073741823, 2147483645, 2147483646}) {
            checks.due(40, "z " + good, false, isRefused(good, (x, n) -> x.seed(n)));
        }
        for (int bad : new int[] {Integer.MIN_VALUE, -1, 0, Integer.MAX_VALUE}) {
            checks.leavesAll(40, "z " + bad, Town::built, Checks.ARGUMENT, x -> x.seed(bad));
        }
        for (char gang : new char[] {'f', 'e'}) {
            argument(47, "more", 0, 9999, (x, n) -> x.purse(gang, n));
            leaks(gang);
        }
    }

    /** At first a leak is 2: up to 20 it is in range, but no lesser one. */
    private static void leaks(char gang) {
        for (int leak = 0; leak <= 20; leak++) {
            int wanted = leak;
            if (leak < 2) {
                checks.due(46, "leak " + leak, false, isRefused(leak, (x, n) -> x.line(0, gang, n)));
            } else {
                checks.leavesAll(46, "leak " + leak, Town::built, Checks.UNSUPPORTED, x -> x.line(0, gang, wanted));
            }
        }
        for (int bad : new int[] {Integer.MIN_VALUE, -1, 21, Integer.MAX_VALUE}) {
            checks.leavesAll(46, "leak " + bad, Town::built, Checks.ARGUMENT, x -> x.line(0, gang, bad));
        }
    }

    // Numbers of nodes, stretches and nozzles

    private static void number(int promise, String what, int count, WithNumber call) {
        range(promise, what, 0, count - 1, Checks.INDEX, (x, n) -> notUnsupported(() -> call.of(x, n)));
    }

    /** A node of another kind is there all the same: only a number that is not there counts as refused. */
    private static Object notUnsupported(Checks.Call call) {
        try {
            return call.answer();
        } catch (UnsupportedOperationException e) {
            return 0;
        }
    }

    private static void nodeNumbers() {
        number(4, "from", Town.NODES, (x, n) -> x.channel(n, 2, 1, 1));
        number(4, "to", Town.NODES, (x, n) -> x.channel(0, n, 1, 1));
        number(5, "from", Town.NODES, (x, n) -> x.siphon(n, 2, 1, 1, 1, 1));
        number(5, "to", Town.NODES, (x, n) -> x.siphon(0, n, 1, 1, 1, 1));
        number(15, "node", Town.NODES, (x, n) -> x.water(n));
        number(16, "node", Town.NODES, (x, n) -> x.hardness(n));
        number(17, "node", Town.NODES, (x, n) -> x.cloud(n));
        number(18, "node", Town.NODES, (x, n) -> x.overflow(n));
        number(19, "node", Town.NODES, (x, n) -> x.level(n, 'h'));
        number(20, "node", Town.NODES, (x, n) -> x.waste(n));
        number(24, "node", Town.NODES, (x, n) -> x.order(n, 5));
        number(25, "node", Town.NODES, (x, n) -> x.nozzle(n, 'b', 5, 0));
        number(42, "node", Town.NODES, (x, n) -> x.roundOf(n));
    }

    private static void stretchNumbers() {
        number(6, "stretch", Town.STRETCHES, (x, n) -> x.capacity(n));
        number(7, "stretch", Town.STRETCHES, (x, n) -> x.crust(n));
        number(8, "stretch", Town.STRETCHES, (x, n) -> x.isBroken(n));
        number(9, "stretch", Town.STRETCHES, (x, n) -> x.shut(n, true));
        number(10, "stretch", Town.STRETCHES, (x, n) -> x.cut(n));
        number(11, "stretch", Town.STRETCHES, (x, n) -> x.hole(n, 1));
        number(21, "stretch", Town.STRETCHES, (x, n) -> x.gauge(n, true));
        number(22, "stretch", Town.STRETCHES, (x, n) -> x.missing(n));
        number(41, "stretch", Town.STRETCHES, (x, n) -> x.roundAlong(n));
        number(44, "stretch", Town.STRETCHES, (x, n) -> x.scrape(n, 'f'));
        number(45, "stretch", Town.STRETCHES, (x, n) -> x.mend(n, 'e'));
        number(46, "stretch", Town.STRETCHES, (x, n) -> x.line(n, 'f', 0));
    }

    private static void nozzleNumbers() {
        number(26, "nozzle", Town.NOZZLES, (x, n) -> x.close(n, true));
        number(27, "nozzle", Town.NOZZLES, (x, n) -> x.widen(n, 60));
        number(28, "nozzle", Town.NOZZLES, (x, n) -> x.given(n));
        number(29, "nozzle", Town.NOZZLES, (x, n) -> x.stolen(n));
        number(31, "nozzle", Town.NOZZLES, (x, n) -> x.grant(6, 6, n));
        for (int held : new int[] {2, 4}) {
            checks.due(33, "nozzle " + held, held / 2, Town.built().holder(held));
        }
        for (int wrong : new int[] {Integer.MIN_VALUE, -1, Town.NOZZLES, Integer.MAX_VALUE}) {
            checks.leavesAll(33, "nozzle " + wrong, Town::built, Checks.INDEX, x -> x.holder(wrong));
        }
        checks.leavesAll(33, "the last nozzle", Town::built, Checks.NOTHING, x -> x.holder(Town.NOZZLES - 1));
    }

    // Signs

    /** The signs that stand in the text are answered, all others up to 400, and the last of all, are refused. */
    private static void signsOf(int promise, String what, String good, WithSign call) {
        for (int i = 0; i <= 401; i++) {
            char sign = i == 401 ? (char) 65535 : (char) i;
            CuratorAquarum x = Town.built();
            Object due = Checks.ARGUMENT.getName();
            Object got = Checks.outcome(() -> call.of(x, sign));
            checks.due(promise, what + " of number " + (int) sign, good.indexOf(sign) < 0, due.equals(got));
        }
    }

    private static void signs() {
        signsOf(3, "kind", "tc", (x, c) -> x.node(c, 5));
        signsOf(19, "chamber", "bah", (x, c) -> x.level(2, c));
        signsOf(25, "chamber", "bah", (x, c) -> x.nozzle(2, c, 5, 0));
        signsOf(30, "way", "dc", (x, c) -> x.measure(c, 5));
        signsOf(44, "gang", "fe", (x, c) -> x.scrape(0, c));
        signsOf(45, "gang", "fe", (x, c) -> x.mend(3, c));
        signsOf(46, "gang", "fe", (x, c) -> x.line(0, c, 0));
        signsOf(47, "gang", "fe", (x, c) -> x.purse(c, 0));
        signsOf(48, "account", "iutlow", (x, c) -> x.account(c));
    }
}
