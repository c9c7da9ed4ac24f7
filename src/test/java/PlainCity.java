import java.util.ArrayList;
import java.util.Comparator;
import java.util.List;
import java.util.NoSuchElementException;

/** The document once more, in its plainest form, to be asked the same as the class. */
final class PlainCity {
    private static final int[] SWING = {6, 8, 10, 8, 4, 0, -6, -10, -8, -4, 0, 4};
    private static final String[] ORDERS = {"bah", "bha", "abh", "ahb", "hba", "hab"};

    private static final class Node {
        int number;
        char kind;
        int height;
        int flow;
        int swing;
        int own;
        int order;
        int waste;
        int overflow;
        int hard;
        int cloud;
        int[] level = new int[128];
        List<int[]> came = new ArrayList<>();

        int water() {
            int sum = 0;
            for (int[] c : came) {
                sum += c[0];
            }
            return sum;
        }

        int mean(int what) {
            int sum = 0;
            for (int[] c : came) {
                sum += c[0] * c[what];
            }
            return water() == 0 ? 0 : sum / water();
        }
    }

    private static final class Stretch {
        char kind;
        int from;
        int to;
        int length;
        int width;
        int depth;
        int lead;
        int leak = 2;
        int crust;
        boolean broken;
        boolean shut;
        int in;
        int out;
        int leaked;
        List<Integer> holes = new ArrayList<>();
    }

    private static final class Nozzle {
        int node;
        char chamber;
        int stamp;
        int real;
        int height;
        boolean shut;
        int[] grant;
    }

    private final List<Node> nodes = new ArrayList<>();
    private final List<Stretch> stretches = new ArrayList<>();
    private final List<Nozzle> nozzles = new ArrayList<>();
    private final List<int[]> list = new ArrayList<>();
    private final List<Integer> died = new ArrayList<>();
    private final long[] account = new long[128];
    private int months;
    private int rain;
    private int care = 50;
    private long z = 1;
    private int tellers;
    private int fisc;
    private final int[] purse = new int[128];

    PlainCity() {
        purse['f'] = 1000;
        purse['e'] = 1000;
    }

    private static void argument(boolean is) {
        if (!is) {
            throw new IllegalArgumentException();
        }
    }

    private static void state(boolean is) {
        if (!is) {
            throw new IllegalStateException();
        }
    }

    private static void supported(boolean is) {
        if (!is) {
            throw new UnsupportedOperationException();
        }
    }

    private static void there(boolean is) {
        if (!is) {
            throw new NoSuchElementException();
        }
    }

    private static <T> T at(List<T> all, int i) {
        if (i < 0 || i >= all.size()) {
            throw new IndexOutOfBoundsException();
        }
        return all.get(i);
    }

    private static boolean in(int n, int least, int most) {
        return least <= n && n <= most;
    }

    int spring(int height, int flow, int swing, int hardness) {
        argument(in(height, 0, 999) && in(flow, 0, 5000) && in(swing, 0, flow) && in(hardness, 0, 9));
        state(nodes.size() < 16);
        Node n = new Node();
        n.kind = 's';
        n.height = height;
        n.flow = flow;
        n.swing = swing;
        n.own = hardness;
        n.number = nodes.size();
        nodes.add(n);
        return n.number;
    }

    int node(char kind, int height) {
        argument((kind == 't' || kind == 'c') && in(height, 0, 999));
        state(nodes.size() < 16);
        Node n = new Node();
        n.kind = kind;
        n.height = height;
        n.number = nodes.size();
        nodes.add(n);
        return n.number;
    }

    private boolean leads(int from, int to) {
        return nodes.get(from).kind != 'c' && nodes.get(to).kind != 's'
                && nodes.get(to).height < nodes.get(from).height;
    }

    int channel(int from, int to, int length, int width) {
        at(nodes, from);
        at(nodes, to);
        argument(in(length, 1, 99) && in(width, 1, 20));
        supported(leads(from, to) && (nodes.get(from).height - nodes.get(to).height) / length >= 1);
        return stretch('c', from, to, length, width, 0, 1);
    }

    int siphon(int from, int to, int length, int width, int depth, int lead) {
        at(nodes, from);
        at(nodes, to);
        argument(in(length, 1, 99) && in(width, 1, 20) && in(depth, 0, 99) && in(lead, 1, 20));
        supported(leads(from, to));
        return stretch('p', from, to, length, width, depth, lead);
    }

    private int stretch(char kind, int from, int to, int length, int width, int depth, int lead) {
        state(stretches.size() < 20);
        Stretch s = new Stretch();
        s.kind = kind;
        s.from = from;
        s.to = to;
        s.length = length;
        s.width = width;
        s.depth = depth;
        s.lead = lead;
        stretches.add(s);
        return stretches.size() - 1;
    }

    private static int root(int n) {
        int r = 0;
        while ((r + 1) * (r + 1) <= n) {
            r++;
        }
        return r;
    }

    int capacity(int stretch) {
        Stretch s = at(stretches, stretch);
        int fall = nodes.get(s.from).height - nodes.get(s.to).height;
        if (s.kind == 'p') {
            return s.width * root(100 * fall) / 2;
        }
        int left = s.width - s.crust / 10;
        return left < 0 ? 0 : left * root(100 * (fall / s.length));
    }

    int crust(int stretch) {
        return at(stretches, stretch).crust;
    }

    boolean isBroken(int stretch) {
        return at(stretches, stretch).broken;
    }

    boolean shut(int stretch, boolean is) {
        boolean was = at(stretches, stretch).shut;
        stretches.get(stretch).shut = is;
        return was;
    }

    boolean cut(int stretch) {
        boolean was = at(stretches, stretch).broken;
        stretches.get(stretch).broken = true;
        return was;
    }

    int hole(int stretch, int size) {
        Stretch s = at(stretches, stretch);
        argument(in(size, 1, 500));
        state(s.holes.size() < 5);
        s.holes.add(size);
        return s.holes.size();
    }

    int rain(int told) {
        argument(in(told, 0, 99));
        int before = rain;
        rain = told;
        return before;
    }

    int month() {
        java.util.Arrays.fill(account, 0);
        for (Node n : nodes) {
            n.came.clear();
            n.overflow = 0;
            n.waste = 0;
        }
        for (Stretch s : stretches) {
            s.in = 0;
            s.out = 0;
            s.leaked = 0;
        }
        List<Node> falling = new ArrayList<>(nodes);
        falling.sort(Comparator.comparingInt((Node n) -> -n.height).thenComparingInt(n -> n.number));
        for (Node n : falling) {
            if (n.kind == 's') {
                int gives = n.flow + n.swing * SWING[months % 12] / 10;
                account['i'] += gives;
                n.came.add(new int[] {gives, n.own, rain});
            }
            n.hard = n.mean(1);
            n.cloud = n.kind == 't' ? n.mean(2) / 2 : n.mean(2);
            if (n.kind == 'c') {
                castle(n);
            } else {
                runOut(n);
            }
        }
        rain = 0;
        months++;
        return (int) account['i'];
    }

    private void runOut(Node n) {
        int left = n.water();
        for (int i = 0; i < stretches.size(); i++) {
            Stretch s = stretches.get(i);
            if (s.from != n.number || s.broken || s.shut) {
                continue;
            }
            int amount = Math.min(left, capacity(i));
            left -= amount;
            if (s.kind == 'p' && amount > 0 && s.depth > 5 * s.lead) {
                s.broken = true;
                n.overflow += amount;
                continue;
            }
            s.in = amount;
            s.leaked = Math.min(amount, amount * s.leak * s.length / 1000);
            s.out = amount - s.leaked;
            for (int hole : s.holes) {
                int taken = Math.min(s.out, hole);
                s.out -= taken;
                account['t'] += taken;
            }
            account['l'] += s.leaked;
            nodes.get(s.to).came.add(new int[] {s.out, n.hard, n.cloud});
            if (s.kind == 'c') {
                s.crust += amount * n.hard / 2000;
            }
        }
        n.overflow += left;
        account['o'] += n.overflow;
    }

    private static int flow(Nozzle z, int bore, int level) {
        return z.shut || level <= z.height ? 0 : bore * bore * (level - z.height) / 50;
    }

    private void castle(Node n) {
        int left = n.water();
        for (char chamber : ORDERS[n.order].toCharArray()) {
            for (int level = 0; level <= 100; level++) {
                int sum = 0;
                for (Nozzle z : nozzles) {
                    sum += z.node == n.number && z.chamber == chamber ? flow(z, z.real, level) : 0;
                }
                if (sum <= left) {
                    n.level[chamber] = level;
                }
            }
            for (Nozzle z : nozzles) {
                if (z.node == n.number && z.chamber == chamber) {
                    int real = flow(z, z.real, n.level[chamber]);
                    int stamped = flow(z, z.stamp, n.level[chamber]);
                    left -= real;
                    account['u'] += stamped;
                    account['t'] += real - stamped;
                }
            }
        }
        n.waste = left;
        account['w'] += left;
    }

    int months() {
        return months;
    }

    int water(int node) {
        return at(nodes, node).water();
    }

    int hardness(int node) {
        return at(nodes, node).hard;
    }

    int cloud(int node) {
        return at(nodes, node).cloud;
    }

    int overflow(int node) {
        return at(nodes, node).overflow;
    }

    private static boolean isChamber(char c) {
        return c == 'b' || c == 'a' || c == 'h';
    }

    int level(int node, char chamber) {
        Node n = at(nodes, node);
        argument(isChamber(chamber));
        supported(n.kind == 'c');
        return n.level[chamber];
    }

    int waste(int node) {
        Node n = at(nodes, node);
        supported(n.kind == 'c');
        return n.waste;
    }

    int gauge(int stretch, boolean isEnd) {
        Stretch s = at(stretches, stretch);
        return isEnd ? s.out : s.in;
    }

    int missing(int stretch) {
        Stretch s = at(stretches, stretch);
        return s.in - s.out - s.leaked;
    }

    int suspect() {
        int best = -1;
        for (int i = 0; i < stretches.size(); i++) {
            if (missing(i) > 0 && (best < 0 || missing(i) > missing(best))) {
                best = i;
            }
        }
        there(best >= 0);
        return best;
    }

    int order(int node, int order) {
        Node n = at(nodes, node);
        argument(in(order, 0, 5));
        supported(n.kind == 'c');
        int before = n.order;
        n.order = order;
        return before;
    }

    int nozzle(int node, char chamber, int bore, int height) {
        Node n = at(nodes, node);
        argument(isChamber(chamber) && in(bore, 5, 40) && in(height, 0, 90));
        supported(n.kind == 'c');
        state(nozzles.size() < 24);
        Nozzle z = new Nozzle();
        z.node = node;
        z.chamber = chamber;
        z.stamp = bore;
        z.real = bore;
        z.height = height;
        z.shut = chamber == 'h';
        nozzles.add(z);
        return nozzles.size() - 1;
    }

    boolean close(int nozzle, boolean is) {
        Nozzle n = at(nozzles, nozzle);
        supported(n.chamber != 'h' || n.grant != null);
        boolean was = n.shut;
        n.shut = is;
        return was;
    }

    int widen(int nozzle, int bore) {
        Nozzle n = at(nozzles, nozzle);
        argument(in(bore, n.stamp, 60));
        int before = n.real;
        n.real = bore;
        return before;
    }

    int given(int nozzle) {
        Nozzle n = at(nozzles, nozzle);
        return flow(n, n.real, nodes.get(n.node).level[n.chamber]);
    }

    int stolen(int nozzle) {
        Nozzle n = at(nozzles, nozzle);
        return given(nozzle) - flow(n, n.stamp, nodes.get(n.node).level[n.chamber]);
    }

    int measure(char way, int quarters) {
        argument((way == 'd' || way == 'c') && in(quarters, 1, 999));
        return way == 'd' ? quarters * quarters / 25 : 49 * quarters * quarters / 12100;
    }

    private static boolean isOne(int n) {
        return in(n, 0, 29);
    }

    private int find(int person, int house) {
        for (int i = 0; i < nozzles.size(); i++) {
            int[] g = nozzles.get(i).grant;
            if (g != null && g[0] == person && g[1] == house) {
                return i;
            }
        }
        return -1;
    }

    private int held() {
        return (int) nozzles.stream().filter(n -> n.grant != null).count();
    }

    int grant(int person, int house, int nozzle) {
        Nozzle n = at(nozzles, nozzle);
        argument(isOne(person) && isOne(house));
        supported(!died.contains(person) && find(person, house) < 0 && n.chamber == 'h' && n.grant == null);
        n.grant = new int[] {person, house};
        n.shut = false;
        return held();
    }

    int granted(int person, int house) {
        argument(isOne(person) && isOne(house));
        there(find(person, house) >= 0);
        return find(person, house);
    }

    int holder(int nozzle) {
        Nozzle n = at(nozzles, nozzle);
        there(n.grant != null);
        return n.grant[0];
    }

    private int endAll(int place, int number, int house) {
        int ended = 0;
        for (Nozzle n : nozzles) {
            if (n.grant != null && n.grant[place] == number && (house < 0 || n.grant[1] == house)) {
                n.grant = null;
                n.shut = true;
                ended++;
            }
        }
        return ended;
    }

    int giveBack(int person, int house) {
        int nozzle = granted(person, house);
        endAll(0, person, house);
        return nozzle;
    }

    int die(int person) {
        argument(isOne(person));
        supported(!died.contains(person));
        died.add(person);
        list.removeIf(w -> w[0] == person);
        return endAll(0, person, -1);
    }

    int sell(int house) {
        argument(isOne(house));
        return endAll(1, house, -1);
    }

    int enlist(int person, int house, int bore) {
        argument(isOne(person) && isOne(house) && in(bore, 5, 40));
        supported(!died.contains(person));
        state(list.size() < 12);
        list.add(new int[] {person, house, bore});
        return list.size();
    }

    int deal() {
        int dealt = 0;
        for (Nozzle n : nozzles) {
            if (n.chamber != 'h' || n.grant != null) {
                continue;
            }
            for (int[] w : new ArrayList<>(list)) {
                if (find(w[0], w[1]) >= 0) {
                    list.remove(w);
                } else if (w[2] <= n.stamp) {
                    list.remove(w);
                    n.grant = new int[] {w[0], w[1]};
                    n.shut = false;
                    dealt++;
                    break;
                }
            }
        }
        return dealt;
    }

    int care(int told) {
        argument(in(told, 0, 100));
        int before = care;
        care = told;
        return before;
    }

    int seed(int told) {
        argument(in(told, 1, 2147483646));
        int before = (int) z;
        z = told;
        return before;
    }

    private boolean draw() {
        z = z * 48271 % 2147483647;
        return z % 100 < care;
    }

    private void fine(int sum) {
        tellers += sum / 2;
        fisc += sum - sum / 2;
    }

    int roundAlong(int stretch) {
        Stretch s = at(stretches, stretch);
        List<Integer> kept = new ArrayList<>();
        int sum = 0;
        for (int hole : s.holes) {
            if (draw()) {
                sum += 10 * hole;
            } else {
                kept.add(hole);
            }
        }
        int found = s.holes.size() - kept.size();
        s.holes = kept;
        fine(sum);
        return found;
    }

    int roundOf(int node) {
        Node c = at(nodes, node);
        supported(c.kind == 'c');
        int found = 0;
        for (Nozzle n : nozzles) {
            if (n.node == node && n.real != n.stamp && draw()) {
                n.real = n.stamp;
                found++;
            }
        }
        fine(100 * found);
        return found;
    }

    int fines(boolean ofTellers) {
        return ofTellers ? tellers : fisc;
    }

    private int pay(char gang, int cost) {
        supported(purse[gang] >= cost);
        purse[gang] -= cost;
        return cost;
    }

    int scrape(int stretch, char gang) {
        Stretch s = at(stretches, stretch);
        argument(gang == 'f' || gang == 'e');
        int next = months % 12;
        supported(s.kind == 'c' && s.crust > 0 && next != 5 && next != 6 && next != 7);
        int tenths = s.crust / 10 + (s.crust % 10 == 0 ? 0 : 1);
        pay(gang, tenths * s.length);
        s.crust = 0;
        return tenths * s.length;
    }

    int mend(int stretch, char gang) {
        Stretch s = at(stretches, stretch);
        argument(gang == 'f' || gang == 'e');
        supported(s.broken);
        int cost = pay(gang, 5 * s.length * s.width);
        s.broken = false;
        return cost;
    }

    int line(int stretch, char gang, int leak) {
        Stretch s = at(stretches, stretch);
        argument((gang == 'f' || gang == 'e') && in(leak, 0, 20));
        supported(leak < s.leak);
        int cost = pay(gang, 3 * s.length * (s.leak - leak));
        s.leak = leak;
        return cost;
    }

    int purse(char gang, int more) {
        argument((gang == 'f' || gang == 'e') && in(more, 0, 9999));
        purse[gang] += more;
        return purse[gang];
    }

    int account(char kind) {
        argument("iutlow".indexOf(kind) >= 0);
        return (int) account[kind];
    }

    long checksum() {
        long sum = 7;
        for (Node n : nodes) {
            sum = 31 * sum + n.water();
        }
        for (Stretch s : stretches) {
            sum = 31 * (31 * sum + s.out) + s.crust;
        }
        for (Nozzle n : nozzles) {
            sum = 31 * (31 * sum + n.real) + (n.grant == null ? -1 : n.grant[0]);
        }
        return 31 * (31 * sum + purse['f'] + purse['e']) + z;
    }

    float heldShare() {
        int ofHouses = (int) nozzles.stream().filter(n -> n.chamber == 'h').count();
        there(ofHouses > 0);
        return (float) held() / (float) ofHouses;
    }

    double meanLength() {
        there(!stretches.isEmpty());
        return (double) stretches.stream().mapToInt(s -> s.length).sum() / (double) stretches.size();
    }

    boolean isSound() {
        return true;
    }
}
