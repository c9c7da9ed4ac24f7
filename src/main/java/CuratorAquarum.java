import java.util.ArrayList;
import java.util.NoSuchElementException;

public final class CuratorAquarum {
    private static final int MOST_NODES = 16;
    private static final int MOST_STRETCHES = 20;
    private static final int MOST_NOZZLES = 24;
    private static final int MOST_HOLES = 5;
    private static final int MOST_WAITING = 12;
    private static final int PERSONS = 30;
    private static final int HOUSES = 30;
    private static final int NOBODY = -1;

    private static final int HIGHEST_NODE = 999;
    private static final int GREATEST_FLOW = 5000;
    private static final int GREATEST_HARDNESS = 9;
    private static final int GREATEST_RAIN = 99;
    private static final int GREATEST_LENGTH = 99;
    private static final int GREATEST_WIDTH = 20;
    private static final int GREATEST_DEPTH = 99;
    private static final int GREATEST_LEAD = 20;
    private static final int GREATEST_LEAK = 20;
    private static final int FIRST_LEAK = 2;
    private static final int GREATEST_HOLE = 500;

    private static final int LEAST_BORE = 5;
    private static final int GREATEST_STAMP = 40;
    private static final int GREATEST_BORE = 60;
    private static final int HIGHEST_NOZZLE = 90;
    private static final int FULL_LEVEL = 100;
    private static final int FIRST_STEP_OF_LEVEL = 64;
    private static final int GREATEST_PIPE = 999;

    private static final int CHAMBERS = 3;
    private static final int CHAMBER_OF_BASINS = 0;
    private static final int CHAMBER_OF_BATHS = 1;
    private static final int CHAMBER_OF_HOUSES = 2;
    private static final int GREATEST_ORDER = 5;
    /** The chambers of order 0, then those of order 1, and so on. */
    private static final int[] ORDERS = {0, 1, 2, 0, 2, 1, 1, 0, 2, 1, 2, 0, 2, 0, 1, 2, 1, 0};

    private static final int MONTHS_OF_YEAR = 12;
    private static final int FIRST_OF_SUMMER = 5;
    private static final int LAST_OF_SUMMER = 7;
    private static final int[] SWINGS = {6, 8, 10, 8, 4, 0, -6, -10, -8, -4, 0, 4};

    private static final int GREATEST_CARE = 100;
    private static final int FINE_FOR_SIZE = 10;
    private static final int FINE_FOR_BORE = 100;
    private static final long DRAW_FACTOR = 48271L;
    private static final long DRAW_MODULUS = 2147483647L;
    private static final int GREATEST_Z = 2147483646;
    private static final int DRAW_RANGE = 100;

    private static final int FIRST_PURSE = 1000;
    private static final int GREATEST_FILLING = 9999;

    private final ArrayList<Node> nodes = new ArrayList<>();
    /** All nodes by falling heights, those of like heights by numbers. */
    private final ArrayList<Node> falling = new ArrayList<>();
    private final ArrayList<Stretch> stretches = new ArrayList<>();
    private final ArrayList<Nozzle> nozzles = new ArrayList<>();
    private final ArrayList<Waiter> waiting = new ArrayList<>();
    private final boolean[] dead = new boolean[PERSONS];
    private final Accounts accounts = new Accounts();
    private int monthsGone = 0;
    private int rainTold = 0;
    private int careTaken = 50;
    private int z = 1;
    private int finesOfTellers = 0;
    private int finesOfFisc = 0;
    private int purseOfFisc = FIRST_PURSE;
    private int purseOfEstate = FIRST_PURSE;

    public CuratorAquarum() {
    }

    // Nodes and stretches

    public int spring(int height, int flow, int swing, int hardness)
            throws IllegalArgumentException, IllegalStateException {
        needRange(height, 0, HIGHEST_NODE);
        needRange(flow, 0, GREATEST_FLOW);
        needRange(swing, 0, flow);
        needRange(hardness, 0, GREATEST_HARDNESS);
        needRoom(nodes.size(), MOST_NODES);
        return addNode(new Spring(height, flow, swing, hardness));
    }

    public int node(char kind, int height) throws IllegalArgumentException, IllegalStateException {
        if (kind != 't' && kind != 'c') {
            throw new IllegalArgumentException("no such kind");
        }
        needRange(height, 0, HIGHEST_NODE);
        needRoom(nodes.size(), MOST_NODES);
        if (kind == 't') {
            return addNode(new Tank(height));
        }
        return addNode(new Castle(height));
    }

    public int channel(int from, int to, int length, int width)
            throws IndexOutOfBoundsException, IllegalArgumentException, UnsupportedOperationException,
            IllegalStateException {
        Node upper = nodeNumbered(from);
        Node lower = nodeNumbered(to);
        needRange(length, 1, GREATEST_LENGTH);
        needRange(width, 1, GREATEST_WIDTH);
        needWay(upper, lower);
        if (Channel.fallOf(upper, lower, length) < 1) {
            throw new UnsupportedOperationException("too little fall");
        }
        needRoom(stretches.size(), MOST_STRETCHES);
        return addStretch(new Channel(upper, lower, length, width));
    }

    public int siphon(int from, int to, int length, int width, int depth, int lead)
            throws IndexOutOfBoundsException, IllegalArgumentException, UnsupportedOperationException,
            IllegalStateException {
        Node upper = nodeNumbered(from);
        Node lower = nodeNumbered(to);
        needRange(length, 1, GREATEST_LENGTH);
        needRange(width, 1, GREATEST_WIDTH);
        needRange(depth, 0, GREATEST_DEPTH);
        needRange(lead, 1, GREATEST_LEAD);
        needWay(upper, lower);
        needRoom(stretches.size(), MOST_STRETCHES);
        return addStretch(new Siphon(upper, lower, length, width, depth, lead));
    }

    public int capacity(int stretch) throws IndexOutOfBoundsException {
        return stretchNumbered(stretch).mostThatRuns();
    }

    public int crust(int stretch) throws IndexOutOfBoundsException {
        return stretchNumbered(stretch).crustSoFar();
    }

    public boolean isBroken(int stretch) throws IndexOutOfBoundsException {
        return stretchNumbered(stretch).broken;
    }

    public boolean shut(int stretch, boolean is) throws IndexOutOfBoundsException {
        Stretch found = stretchNumbered(stretch);
        boolean was = found.closed;
        found.closed = is;
        return was;
    }

    public boolean cut(int stretch) throws IndexOutOfBoundsException {
        Stretch found = stretchNumbered(stretch);
        boolean was = found.broken;
        found.broken = true;
        return was;
    }

    public int hole(int stretch, int size)
            throws IndexOutOfBoundsException, IllegalArgumentException, IllegalStateException {
        Stretch found = stretchNumbered(stretch);
        needRange(size, 1, GREATEST_HOLE);
        needRoom(found.holeCount, MOST_HOLES);
        found.addHole(size);
        return found.holeCount;
    }

    public int rain(int rain) throws IllegalArgumentException {
        needRange(rain, 0, GREATEST_RAIN);
        int before = rainTold;
        rainTold = rain;
        return before;
    }

    // Months

    public int month() {
        int monthOfYear = nextMonthOfYear();
        forgetLastMonth();
        for (int i = 0; i < falling.size(); i++) {
            passThrough(falling.get(i), monthOfYear);
        }
        addUpAccounts();
        rainTold = 0;
        monthsGone++;
        return accounts.sprung;
    }

    public int months() {
        return monthsGone;
    }

    public int water(int node) throws IndexOutOfBoundsException {
        return nodeNumbered(node).water;
    }

    public int hardness(int node) throws IndexOutOfBoundsException {
        return nodeNumbered(node).hardness;
    }

    public int cloud(int node) throws IndexOutOfBoundsException {
        return nodeNumbered(node).cloud;
    }

    public int overflow(int node) throws IndexOutOfBoundsException {
        return nodeNumbered(node).overflow;
    }

    public int level(int node, char chamber)
            throws IndexOutOfBoundsException, IllegalArgumentException, UnsupportedOperationException {
        Node found = nodeNumbered(node);
        int place = chamberNamed(chamber);
        return castleIn(found).levelIn(place);
    }

    public int waste(int node) throws IndexOutOfBoundsException, UnsupportedOperationException {
        return castleIn(nodeNumbered(node)).waste;
    }

    public int gauge(int stretch, boolean isEnd) throws IndexOutOfBoundsException {
        Stretch found = stretchNumbered(stretch);
        return isEnd ? found.cameOut : found.ranIn;
    }

    public int missing(int stretch) throws IndexOutOfBoundsException {
        return stretchNumbered(stretch).lost();
    }

    public int suspect() throws NoSuchElementException {
        int most = 0;
        int where = -1;
        for (int i = 0; i < stretches.size(); i++) {
            int lost = stretches.get(i).lost();
            if (lost > most) {
                most = lost;
                where = i;
            }
        }
        if (where < 0) {
            throw new NoSuchElementException("nothing was missing");
        }
        return where;
    }

    // Castles and nozzles

    public int order(int node, int order)
            throws IndexOutOfBoundsException, IllegalArgumentException, UnsupportedOperationException {
        Node found = nodeNumbered(node);
        needRange(order, 0, GREATEST_ORDER);
        Castle castle = castleIn(found);
        int before = castle.sequence;
        castle.sequence = order;
        return before;
    }

    public int nozzle(int node, char chamber, int bore, int height)
            throws IndexOutOfBoundsException, IllegalArgumentException, UnsupportedOperationException,
            IllegalStateException {
        Node found = nodeNumbered(node);
        int place = chamberNamed(chamber);
        needRange(bore, LEAST_BORE, GREATEST_STAMP);
        needRange(height, 0, HIGHEST_NOZZLE);
        Castle castle = castleIn(found);
        needRoom(nozzles.size(), MOST_NOZZLES);
        nozzles.add(new Nozzle(castle, place, bore, height));
        return nozzles.size() - 1;
    }

    public boolean close(int nozzle, boolean is) throws IndexOutOfBoundsException, UnsupportedOperationException {
        Nozzle found = nozzleNumbered(nozzle);
        if (found.isVacant()) {
            throw new UnsupportedOperationException("without a holder");
        }
        boolean was = found.closed;
        found.closed = is;
        return was;
    }

    public int widen(int nozzle, int bore) throws IndexOutOfBoundsException, IllegalArgumentException {
        Nozzle found = nozzleNumbered(nozzle);
        needRange(bore, found.stamp, GREATEST_BORE);
        int before = found.bore;
        found.bore = bore;
        return before;
    }

    public int given(int nozzle) throws IndexOutOfBoundsException {
        Nozzle found = nozzleNumbered(nozzle);
        return found.flowAt(found.levelLastMonth());
    }

    public int stolen(int nozzle) throws IndexOutOfBoundsException {
        Nozzle found = nozzleNumbered(nozzle);
        return found.theftAt(found.levelLastMonth());
    }

    public int measure(char way, int quarters) throws IllegalArgumentException {
        if (way != 'd' && way != 'c') {
            throw new IllegalArgumentException("no such way");
        }
        needRange(quarters, 1, GREATEST_PIPE);
        int squared = quarters * quarters;
        return way == 'd' ? squared / 25 : 49 * squared / 12100;
    }

    // Grants

    public int grant(int person, int house, int nozzle)
            throws IndexOutOfBoundsException, IllegalArgumentException, UnsupportedOperationException {
        Nozzle found = nozzleNumbered(nozzle);
        needPerson(person);
        needHouse(house);
        needAlive(person);
        if (nozzleGranted(person, house) >= 0 || !found.isVacant()) {
            throw new UnsupportedOperationException("not to be granted");
        }
        found.give(person, house);
        return countHeld();
    }

    public int granted(int person, int house) throws IllegalArgumentException, NoSuchElementException {
        needPerson(person);
        needHouse(house);
        return needGrant(person, house);
    }

    public int holder(int nozzle) throws IndexOutOfBoundsException, NoSuchElementException {
        Nozzle found = nozzleNumbered(nozzle);
        if (found.owner == NOBODY) {
            throw new NoSuchElementException("no holder");
        }
        return found.owner;
    }

    public int giveBack(int person, int house) throws IllegalArgumentException, NoSuchElementException {
        needPerson(person);
        needHouse(house);
        int number = needGrant(person, house);
        nozzleNumbered(number).takeBack();
        return number;
    }

    public int die(int person) throws IllegalArgumentException, UnsupportedOperationException {
        needPerson(person);
        needAlive(person);
        if (person >= 0 && person < dead.length) {
            dead[person] = true;
        }
        strikeOff(person);
        int ended = 0;
        for (int i = 0; i < nozzles.size(); i++) {
            Nozzle nozzle = nozzles.get(i);
            if (nozzle.owner == person) {
                nozzle.takeBack();
                ended++;
            }
        }
        return ended;
    }

    public int sell(int house) throws IllegalArgumentException {
        needHouse(house);
        int ended = 0;
        for (int i = 0; i < nozzles.size(); i++) {
            Nozzle nozzle = nozzles.get(i);
            if (nozzle.owner != NOBODY && nozzle.house == house) {
                nozzle.takeBack();
                ended++;
            }
        }
        return ended;
    }

    public int enlist(int person, int house, int bore)
            throws IllegalArgumentException, UnsupportedOperationException, IllegalStateException {
        needPerson(person);
        needHouse(house);
        needRange(bore, LEAST_BORE, GREATEST_STAMP);
        needAlive(person);
        needRoom(waiting.size(), MOST_WAITING);
        waiting.add(new Waiter(person, house, bore));
        return waiting.size();
    }

    public int deal() {
        int dealt = 0;
        for (int i = 0; i < nozzles.size(); i++) {
            Nozzle nozzle = nozzles.get(i);
            if (nozzle.isVacant() && dealOut(nozzle)) {
                dealt++;
            }
        }
        return dealt;
    }

    // Rounds and gangs

    public int care(int care) throws IllegalArgumentException {
        needRange(care, 0, GREATEST_CARE);
        int before = careTaken;
        careTaken = care;
        return before;
    }

    public int seed(int z) throws IllegalArgumentException {
        needRange(z, 1, GREATEST_Z);
        int before = this.z;
        this.z = z;
        return before;
    }

    public int roundAlong(int stretch) throws IndexOutOfBoundsException {
        Stretch found = stretchNumbered(stretch);
        int before = found.holeCount;
        int kept = 0;
        int fine = 0;
        for (int i = 0; i < before; i++) {
            int size = found.holeAt(i);
            if (isFound()) {
                fine += FINE_FOR_SIZE * size;
            } else {
                found.keepHole(kept, size);
                kept++;
            }
        }
        found.holeCount = kept;
        shareFine(fine);
        return before - kept;
    }

    public int roundOf(int node) throws IndexOutOfBoundsException, UnsupportedOperationException {
        Castle castle = castleIn(nodeNumbered(node));
        int found = 0;
        for (int i = 0; i < nozzles.size(); i++) {
            Nozzle nozzle = nozzles.get(i);
            if (nozzle.castle == castle && nozzle.bore != nozzle.stamp && isFound()) {
                nozzle.bore = nozzle.stamp;
                found++;
            }
        }
        shareFine(FINE_FOR_BORE * found);
        return found;
    }

    public int fines(boolean ofTellers) {
        return ofTellers ? finesOfTellers : finesOfFisc;
    }

    public int scrape(int stretch, char gang)
            throws IndexOutOfBoundsException, IllegalArgumentException, UnsupportedOperationException {
        Stretch found = stretchNumbered(stretch);
        needGang(gang);
        if (found.crustSoFar() <= 0 || isSummerNext()) {
            throw new UnsupportedOperationException("not to be scraped");
        }
        int cost = (found.crustSoFar() + 9) / 10 * found.length;
        pay(gang, cost);
        found.loseCrust();
        return cost;
    }

    public int mend(int stretch, char gang)
            throws IndexOutOfBoundsException, IllegalArgumentException, UnsupportedOperationException {
        Stretch found = stretchNumbered(stretch);
        needGang(gang);
        if (!found.broken) {
            throw new UnsupportedOperationException("not needed");
        }
        int cost = 5 * found.length * found.width;
        pay(gang, cost);
        found.broken = false;
        return cost;
    }

    public int line(int stretch, char gang, int leak)
            throws IndexOutOfBoundsException, IllegalArgumentException, UnsupportedOperationException {
        Stretch found = stretchNumbered(stretch);
        needGang(gang);
        needRange(leak, 0, GREATEST_LEAK);
        if (found.leak <= leak) {
            throw new UnsupportedOperationException("no greater leak");
        }
        int cost = 3 * found.length * (found.leak - leak);
        pay(gang, cost);
        found.leak = leak;
        return cost;
    }

    public int purse(char gang, int more) throws IllegalArgumentException {
        needGang(gang);
        needRange(more, 0, GREATEST_FILLING);
        addToPurse(gang, more);
        return inPurse(gang);
    }

    // Sums

    public int account(char kind) throws IllegalArgumentException {
        if (kind == 'i') {
            return accounts.sprung;
        }
        if (kind == 'u') {
            return accounts.used;
        }
        if (kind == 't') {
            return accounts.taken;
        }
        if (kind == 'l') {
            return accounts.leaked;
        }
        if (kind == 'o') {
            return accounts.overflowed;
        }
        if (kind == 'w') {
            return accounts.wasted;
        }
        throw new IllegalArgumentException("no such account");
    }

    public long checksum() {
        long sum = 7L;
        for (int i = 0; i < nodes.size(); i++) {
            sum = 31L * sum + nodes.get(i).water;
        }
        for (int i = 0; i < stretches.size(); i++) {
            Stretch stretch = stretches.get(i);
            sum = 31L * sum + stretch.cameOut;
            sum = 31L * sum + stretch.crustSoFar();
        }
        for (int i = 0; i < nozzles.size(); i++) {
            Nozzle nozzle = nozzles.get(i);
            sum = 31L * sum + nozzle.bore;
            sum = 31L * sum + nozzle.owner;
        }
        sum = 31L * sum + ((long) purseOfFisc + (long) purseOfEstate);
        return 31L * sum + z;
    }

    public float heldShare() throws NoSuchElementException {
        int ofHouses = 0;
        for (int i = 0; i < nozzles.size(); i++) {
            if (nozzles.get(i).isOfHouses()) {
                ofHouses++;
            }
        }
        if (ofHouses == 0) {
            throw new NoSuchElementException("no nozzles of houses");
        }
        return (float) countHeld() / (float) ofHouses;
    }

    public double meanLength() throws NoSuchElementException {
        int sum = 0;
        for (int i = 0; i < stretches.size(); i++) {
            sum += stretches.get(i).length;
        }
        int count = stretches.size();
        if (count == 0) {
            throw new NoSuchElementException("no stretches");
        }
        return (double) sum / (double) count;
    }

    public boolean isSound() {
        return accounts.areBalanced() && areGrantsSound() && isListSound() && areLevelsSound();
    }

    // What a call needs

    private static void needRange(int number, int least, int most) {
        if (number < least || number > most) {
            throw new IllegalArgumentException("out of range");
        }
    }

    private static void needRoom(int count, int most) {
        if (count >= most) {
            throw new IllegalStateException("no room");
        }
    }

    private static void needPerson(int person) {
        needRange(person, 0, PERSONS - 1);
    }

    private static void needHouse(int house) {
        needRange(house, 0, HOUSES - 1);
    }

    private static void needGang(char gang) {
        if (gang != 'f' && gang != 'e') {
            throw new IllegalArgumentException("no such gang");
        }
    }

    private static void needWay(Node upper, Node lower) {
        if (!upper.leadsOn() || !lower.isLedTo() || lower.height >= upper.height) {
            throw new UnsupportedOperationException("it cannot lead so");
        }
    }

    private void needAlive(int person) {
        if (isDead(person)) {
            throw new UnsupportedOperationException("the person died");
        }
    }

    private int needGrant(int person, int house) {
        int number = nozzleGranted(person, house);
        if (number < 0) {
            throw new NoSuchElementException("no such grant");
        }
        return number;
    }

    private Node nodeNumbered(int number) {
        if (number < 0 || number >= nodes.size()) {
            throw new IndexOutOfBoundsException("no such node");
        }
        return nodes.get(number);
    }

    private Stretch stretchNumbered(int number) {
        if (number < 0 || number >= stretches.size()) {
            throw new IndexOutOfBoundsException("no such stretch");
        }
        return stretches.get(number);
    }

    private Nozzle nozzleNumbered(int number) {
        if (number < 0 || number >= nozzles.size()) {
            throw new IndexOutOfBoundsException("no such nozzle");
        }
        return nozzles.get(number);
    }

    private static Castle castleIn(Node node) {
        if (node instanceof Castle castle) {
            return castle;
        }
        throw new UnsupportedOperationException("no castle");
    }

    private static int chamberNamed(char chamber) {
        if (chamber == 'b') {
            return CHAMBER_OF_BASINS;
        }
        if (chamber == 'a') {
            return CHAMBER_OF_BATHS;
        }
        if (chamber == 'h') {
            return CHAMBER_OF_HOUSES;
        }
        throw new IllegalArgumentException("no such chamber");
    }

    // How the net grows

    private int addNode(Node node) {
        int place = 0;
        while (place < falling.size() && falling.get(place).height >= node.height) {
            place++;
        }
        falling.add(place, node);
        nodes.add(node);
        return nodes.size() - 1;
    }

    private int addStretch(Stretch stretch) {
        stretches.add(stretch);
        return stretches.size() - 1;
    }

    // How a month goes by

    private int nextMonthOfYear() {
        return Math.floorMod(monthsGone, MONTHS_OF_YEAR);
    }

    private boolean isSummerNext() {
        int next = nextMonthOfYear();
        return next >= FIRST_OF_SUMMER && next <= LAST_OF_SUMMER;
    }

    private void forgetLastMonth() {
        accounts.forget();
        for (int i = 0; i < nodes.size(); i++) {
            nodes.get(i).forget();
        }
        for (int i = 0; i < stretches.size(); i++) {
            stretches.get(i).forget();
        }
    }

    private void passThrough(Node node, int monthOfYear) {
        if (node instanceof Spring spring) {
            int gives = spring.givesIn(monthOfYear);
            spring.take(gives, spring.ownHardness, rainTold);
            accounts.sprung += gives;
        }
        node.mix();
        if (node instanceof Castle castle) {
            fillChambers(castle);
        } else {
            runOn(node);
        }
    }

    private void runOn(Node node) {
        int left = node.water;
        for (int i = 0; i < stretches.size(); i++) {
            Stretch stretch = stretches.get(i);
            if (stretch.from == node && !stretch.broken && !stretch.closed) {
                int amount = Math.min(left, stretch.mostThatRuns());
                left -= amount;
                if (amount > 0 && stretch.isTooWeak()) {
                    stretch.broken = true;
                    node.overflow += amount;
                } else {
                    stretch.carry(amount);
                }
            }
        }
        node.overflow += left;
    }

    private void fillChambers(Castle castle) {
        int left = castle.water;
        for (int turn = 0; turn < CHAMBERS; turn++) {
            int chamber = castle.chamberInTurn(turn);
            int level = greatestLevel(castle, chamber, left);
            castle.setLevel(chamber, level);
            left -= flowOf(castle, chamber, level);
        }
        castle.waste = left;
    }

    /** Nozzles give more at a higher level, or as much: so halved steps find the greatest one. */
    private int greatestLevel(Castle castle, int chamber, int water) {
        int level = 0;
        for (int step = FIRST_STEP_OF_LEVEL; step > 0; step /= 2) {
            int higher = level + step;
            if (higher <= FULL_LEVEL && flowOf(castle, chamber, higher) <= water) {
                level = higher;
            }
        }
        return level;
    }

    private int flowOf(Castle castle, int chamber, int level) {
        int sum = 0;
        for (int i = 0; i < nozzles.size(); i++) {
            Nozzle nozzle = nozzles.get(i);
            if (nozzle.isAt(castle, chamber)) {
                sum += nozzle.flowAt(level);
            }
        }
        return sum;
    }

    private void addUpAccounts() {
        for (int i = 0; i < nodes.size(); i++) {
            Node node = nodes.get(i);
            accounts.overflowed += node.overflow;
            if (node instanceof Castle castle) {
                accounts.wasted += castle.waste;
            }
        }
        for (int i = 0; i < stretches.size(); i++) {
            Stretch stretch = stretches.get(i);
            accounts.leaked += stretch.leaked;
            accounts.taken += stretch.lost();
        }
        for (int i = 0; i < nozzles.size(); i++) {
            Nozzle nozzle = nozzles.get(i);
            int level = nozzle.levelLastMonth();
            int theft = nozzle.theftAt(level);
            accounts.used += nozzle.flowAt(level) - theft;
            accounts.taken += theft;
        }
    }

    // How grants and the list are kept

    private boolean isDead(int person) {
        return person >= 0 && person < dead.length && dead[person];
    }

    /** The number of the nozzle, -1 without that grant. */
    private int nozzleGranted(int person, int house) {
        for (int i = 0; i < nozzles.size(); i++) {
            if (nozzles.get(i).isGrantedTo(person, house)) {
                return i;
            }
        }
        return -1;
    }

    private int countHeld() {
        int held = 0;
        for (int i = 0; i < nozzles.size(); i++) {
            if (nozzles.get(i).owner != NOBODY) {
                held++;
            }
        }
        return held;
    }

    private void strikeOff(int person) {
        for (int i = waiting.size() - 1; i >= 0; i--) {
            if (waiting.get(i).person == person) {
                waiting.remove(i);
            }
        }
    }

    private boolean dealOut(Nozzle nozzle) {
        int place = 0;
        for (int left = waiting.size(); left > 0 && place < waiting.size(); left--) {
            Waiter waiter = waiting.get(place);
            if (nozzleGranted(waiter.person, waiter.house) >= 0) {
                waiting.remove(place);
            } else if (waiter.leastBore <= nozzle.stamp) {
                waiting.remove(place);
                nozzle.give(waiter.person, waiter.house);
                return true;
            } else {
                place++;
            }
        }
        return false;
    }

    // How rounds and gangs go about

    private boolean isFound() {
        z = (int) (z * DRAW_FACTOR % DRAW_MODULUS);
        return z % DRAW_RANGE < careTaken;
    }

    private void shareFine(int fine) {
        int half = fine / 2;
        finesOfTellers += half;
        finesOfFisc += fine - half;
    }

    private int inPurse(char gang) {
        return gang == 'f' ? purseOfFisc : purseOfEstate;
    }

    private void addToPurse(char gang, int more) {
        if (gang == 'f') {
            purseOfFisc += more;
        } else {
            purseOfEstate += more;
        }
    }

    private void pay(char gang, int cost) {
        if (inPurse(gang) < cost) {
            throw new UnsupportedOperationException("the purse has less");
        }
        addToPurse(gang, -cost);
    }

    // What is sound

    private boolean areGrantsSound() {
        for (int i = 0; i < nozzles.size(); i++) {
            Nozzle nozzle = nozzles.get(i);
            if (nozzle.owner != NOBODY && !isGrantSound(nozzle, i)) {
                return false;
            }
        }
        return true;
    }

    private boolean isGrantSound(Nozzle nozzle, int number) {
        return nozzle.isOfHouses() && !isDead(nozzle.owner)
                && nozzleGranted(nozzle.owner, nozzle.house) == number;
    }

    private boolean isListSound() {
        for (int i = 0; i < waiting.size(); i++) {
            if (isDead(waiting.get(i).person)) {
                return false;
            }
        }
        return true;
    }

    private boolean areLevelsSound() {
        for (int i = 0; i < nodes.size(); i++) {
            if (nodes.get(i) instanceof Castle castle && !castle.hasSoundLevels()) {
                return false;
            }
        }
        return true;
    }

    /** A node, with what came into it in the last month. */
    private abstract static class Node {
        final int height;
        int water = 0;
        int hardness = 0;
        int cloud = 0;
        int overflow = 0;
        private int hardnessByWater = 0;
        private int cloudByWater = 0;

        Node(int height) {
            this.height = height;
        }

        boolean leadsOn() {
            return true;
        }

        boolean isLedTo() {
            return true;
        }

        void forget() {
            water = 0;
            hardness = 0;
            cloud = 0;
            overflow = 0;
            hardnessByWater = 0;
            cloudByWater = 0;
        }

        void take(int amount, int itsHardness, int itsCloud) {
            water += amount;
            hardnessByWater += amount * itsHardness;
            cloudByWater += amount * itsCloud;
        }

        void mix() {
            if (water > 0) {
                hardness = hardnessByWater / water;
                cloud = cloudByWater / water;
            }
        }
    }

    private static final class Spring extends Node {
        final int ownHardness;
        private final int flow;
        private final int swing;

        Spring(int height, int flow, int swing, int ownHardness) {
            super(height);
            this.flow = flow;
            this.swing = swing;
            this.ownHardness = ownHardness;
        }

        boolean isLedTo() {
            return false;
        }

        int givesIn(int monthOfYear) {
            if (monthOfYear < 0 || monthOfYear >= SWINGS.length) {
                return flow;
            }
            return flow + swing * SWINGS[monthOfYear] / 10;
        }
    }

    private static final class Tank extends Node {
        Tank(int height) {
            super(height);
        }

        void mix() {
            super.mix();
            cloud /= 2;
        }
    }

    private static final class Castle extends Node {
        int sequence = 0;
        int waste = 0;
        private final int[] levels = new int[CHAMBERS];

        Castle(int height) {
            super(height);
        }

        boolean leadsOn() {
            return false;
        }

        int chamberInTurn(int turn) {
            int place = sequence * CHAMBERS + turn;
            return place >= 0 && place < ORDERS.length ? ORDERS[place] : turn;
        }

        int levelIn(int chamber) {
            return chamber >= 0 && chamber < levels.length ? levels[chamber] : 0;
        }

        void setLevel(int chamber, int level) {
            if (chamber >= 0 && chamber < levels.length) {
                levels[chamber] = level;
            }
        }

        boolean hasSoundLevels() {
            for (int i = 0; i < levels.length; i++) {
                if (levels[i] < 0 || levels[i] > FULL_LEVEL) {
                    return false;
                }
            }
            return true;
        }
    }

    /** A stretch, with what its gauges told in the last month. */
    private abstract static class Stretch {
        final Node from;
        final Node to;
        final int length;
        final int width;
        int leak = FIRST_LEAK;
        boolean broken = false;
        boolean closed = false;
        int holeCount = 0;
        int ranIn = 0;
        int cameOut = 0;
        int leaked = 0;
        private final int[] holes = new int[MOST_HOLES];

        Stretch(Node from, Node to, int length, int width) {
            this.from = from;
            this.to = to;
            this.length = length;
            this.width = width;
        }

        abstract int mostThatRuns();

        abstract boolean isTooWeak();

        abstract int crustSoFar();

        abstract void gatherCrust(int amount);

        abstract void loseCrust();

        void forget() {
            ranIn = 0;
            cameOut = 0;
            leaked = 0;
        }

        void carry(int amount) {
            ranIn = amount;
            leaked = Math.min(amount, amount * leak * length / 1000);
            cameOut = amount - leaked;
            for (int i = 0; i < holeCount; i++) {
                cameOut -= Math.min(cameOut, holeAt(i));
            }
            to.take(cameOut, from.hardness, from.cloud);
            gatherCrust(amount);
        }

        int lost() {
            return ranIn - cameOut - leaked;
        }

        int holeAt(int place) {
            return place >= 0 && place < holes.length ? holes[place] : 0;
        }

        void keepHole(int place, int size) {
            if (place >= 0 && place < holes.length) {
                holes[place] = size;
            }
        }

        void addHole(int size) {
            keepHole(holeCount, size);
            holeCount++;
        }

        static int rootOf(int number) {
            int root = 0;
            for (int step = 256; step > 0; step /= 2) {
                int greater = root + step;
                if (greater * greater <= number) {
                    root = greater;
                }
            }
            return root;
        }
    }

    private static final class Channel extends Stretch {
        private final int root;
        private int crust = 0;

        Channel(Node from, Node to, int length, int width) {
            super(from, to, length, width);
            root = rootOf(100 * fallOf(from, to, length));
        }

        static int fallOf(Node from, Node to, int length) {
            return length > 0 ? (from.height - to.height) / length : 0;
        }

        int mostThatRuns() {
            return Math.max(0, width - crust / 10) * root;
        }

        boolean isTooWeak() {
            return false;
        }

        int crustSoFar() {
            return crust;
        }

        void gatherCrust(int amount) {
            crust += amount * from.hardness / 2000;
        }

        void loseCrust() {
            crust = 0;
        }
    }

    private static final class Siphon extends Stretch {
        private final int root;
        private final int depth;
        private final int lead;

        Siphon(Node from, Node to, int length, int width, int depth, int lead) {
            super(from, to, length, width);
            root = rootOf(100 * (from.height - to.height));
            this.depth = depth;
            this.lead = lead;
        }

        int mostThatRuns() {
            return width * root / 2;
        }

        boolean isTooWeak() {
            return depth > 5 * lead;
        }

        int crustSoFar() {
            return 0;
        }

        void gatherCrust(int amount) {
        }

        void loseCrust() {
        }
    }

    /** A nozzle at a chamber, with the grant that it is held by. */
    private static final class Nozzle {
        final Castle castle;
        final int stamp;
        int bore;
        boolean closed;
        int owner = NOBODY;
        int house = -1;
        private final int chamber;
        private final int height;

        Nozzle(Castle castle, int chamber, int stamp, int height) {
            this.castle = castle;
            this.chamber = chamber;
            this.stamp = stamp;
            this.height = height;
            bore = stamp;
            closed = chamber == CHAMBER_OF_HOUSES;
        }

        boolean isAt(Castle where, int whichChamber) {
            return castle == where && chamber == whichChamber;
        }

        boolean isOfHouses() {
            return chamber == CHAMBER_OF_HOUSES;
        }

        boolean isVacant() {
            return isOfHouses() && owner == NOBODY;
        }

        boolean isGrantedTo(int person, int itsHouse) {
            return owner != NOBODY && owner == person && house == itsHouse;
        }

        void give(int person, int itsHouse) {
            owner = person;
            house = itsHouse;
            closed = false;
        }

        void takeBack() {
            owner = NOBODY;
            house = -1;
            closed = true;
        }

        int levelLastMonth() {
            return castle.levelIn(chamber);
        }

        int flowAt(int level) {
            return flowThrough(bore, level);
        }

        int theftAt(int level) {
            return flowThrough(bore, level) - flowThrough(stamp, level);
        }

        private int flowThrough(int itsBore, int level) {
            if (closed || level <= height) {
                return 0;
            }
            return itsBore * itsBore * (level - height) / 50;
        }
    }

    private static final class Waiter {
        final int person;
        final int house;
        final int leastBore;

        Waiter(int person, int house, int leastBore) {
            this.person = person;
            this.house = house;
            this.leastBore = leastBore;
        }
    }

    /** What became of the water of the last month. */
    private static final class Accounts {
        int sprung = 0;
        int used = 0;
        int taken = 0;
        int leaked = 0;
        int overflowed = 0;
        int wasted = 0;

        void forget() {
            sprung = 0;
            used = 0;
            taken = 0;
            leaked = 0;
            overflowed = 0;
            wasted = 0;
        }

        boolean areBalanced() {
            return sprung == used + taken + leaked + overflowed + wasted;
        }
    }
}
