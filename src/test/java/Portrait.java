/** All that a city answers, and how it goes on behind that; the city is used up by the asking. */
final class Portrait {
    private final CuratorAquarum city;
    private final StringBuilder text = new StringBuilder();
    private int nodes = 0;
    private int stretches = 0;
    private int nozzles = 0;

    private Portrait(CuratorAquarum city) {
        this.city = city;
    }

    /** Nothing if both are alike, otherwise the first thing in which the second one differs. */
    static String difference(CuratorAquarum one, CuratorAquarum other) {
        String[] due = of(one).split("\n");
        String[] got = of(other).split("\n");
        for (int i = 0; i < due.length && i < got.length; i++) {
            if (!due[i].equals(got[i])) {
                return got[i] + " for " + due[i];
            }
        }
        return due.length == got.length ? "" : got.length + " answers for " + due.length;
    }

    private static String of(CuratorAquarum city) {
        Portrait portrait = new Portrait(city);
        portrait.countAll();
        portrait.sums();
        portrait.nodesNow();
        portrait.stretchesNow();
        portrait.nozzlesNow();
        portrait.settings();
        portrait.goOn();
        return portrait.text.toString();
    }

    private void put(String what, Checks.Call call) {
        text.append(what).append(' ').append(Checks.outcome(call)).append('\n');
    }

    private static boolean isThere(Checks.Call call) {
        return !Checks.outcome(call).equals(Checks.INDEX.getName());
    }

    private void countAll() {
        while (isThere(() -> city.water(nodes))) {
            nodes++;
        }
        while (isThere(() -> city.crust(stretches))) {
            stretches++;
        }
        while (isThere(() -> city.stolen(nozzles))) {
            nozzles++;
        }
        text.append(nodes).append(' ').append(stretches).append(' ').append(nozzles).append('\n');
    }

    private void sums() {
        put("months", city::months);
        put("checksum", city::checksum);
        put("heldShare", city::heldShare);
        put("meanLength", city::meanLength);
        put("isSound", city::isSound);
        put("suspect", city::suspect);
        put("fines of tellers", () -> city.fines(true));
        put("fines of the fisc", () -> city.fines(false));
        for (char kind : "iutlow".toCharArray()) {
            put("account " + kind, () -> city.account(kind));
        }
    }

    private void nodesNow() {
        for (int i = 0; i < nodes; i++) {
            int node = i;
            put("water " + i, () -> city.water(node));
            put("hardness " + i, () -> city.hardness(node));
            put("cloud " + i, () -> city.cloud(node));
            put("overflow " + i, () -> city.overflow(node));
            put("waste " + i, () -> city.waste(node));
            put("level b " + i, () -> city.level(node, 'b'));
            put("level a " + i, () -> city.level(node, 'a'));
            put("level h " + i, () -> city.level(node, 'h'));
            put("order " + i, () -> city.order(node, 4));
        }
    }

    private void stretchesNow() {
        for (int i = 0; i < stretches; i++) {
            int stretch = i;
            put("capacity " + i, () -> city.capacity(stretch));
            put("crust " + i, () -> city.crust(stretch));
            put("isBroken " + i, () -> city.isBroken(stretch));
            put("beginning " + i, () -> city.gauge(stretch, false));
            put("end " + i, () -> city.gauge(stretch, true));
            put("missing " + i, () -> city.missing(stretch));
            put("shut " + i, () -> city.shut(stretch, false));
        }
    }

    private void nozzlesNow() {
        for (int i = 0; i < nozzles; i++) {
            int nozzle = i;
            put("given " + i, () -> city.given(nozzle));
            put("stolen " + i, () -> city.stolen(nozzle));
            put("holder " + i, () -> city.holder(nozzle));
            put("widen " + i, () -> city.widen(nozzle, 50));
            put("close " + i, () -> city.close(nozzle, false));
        }
    }

    private void settings() {
        put("z", () -> city.seed(777));
        put("care", () -> city.care(100));
        put("purse f", () -> city.purse('f', 9999));
        put("purse e", () -> city.purse('e', 9999));
        put("rain", () -> city.rain(80));
    }

    /** What cannot be asked for without changing it: leaks, holes, houses of grants, the list, the dead. */
    private void goOn() {
        put("month", city::month);
        put("checksum behind it", city::checksum);
        for (int i = 0; i < stretches; i++) {
            int stretch = i;
            put("what comes out of " + i, () -> city.gauge(stretch, true));
            put("holes of " + i, () -> city.roundAlong(stretch));
            put("their fines " + i, () -> city.fines(true));
            put("cost of lining " + i, () -> city.line(stretch, 'e', 0));
        }
        put("on the list", () -> city.enlist(20, 20, 40));
        for (int house = 0; house < 6; house++) {
            int sold = house;
            put("granted for " + house, () -> city.granted(1, sold));
            put("sold " + house, () -> city.sell(sold));
        }
        put("dealt", city::deal);
        for (int i = 0; i < nozzles; i++) {
            int nozzle = i;
            put("holder then " + i, () -> city.holder(nozzle));
        }
        put("on the list then", () -> city.enlist(20, 21, 40));
        for (int person = 0; person < 6; person++) {
            int dying = person;
            put("dies " + person, () -> city.die(dying));
        }
        put("on the list in the end", () -> city.enlist(20, 22, 40));
    }
}
