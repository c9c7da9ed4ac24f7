/** The sentences of 'Terms' on grants, rounds, gangs, gauges and exceptions, each by itself. */
final class TermsOfPeople {
    private final Checks checks;

    TermsOfPeople(Checks checks) {
        this.checks = checks;
    }

    void ask() {
        numbersOfPeople();
        grants();
        endsOfGrants();
        list();
        dealing();
        dead();
        roundsAlong();
        careAtItsEdges();
        roundsOfCastles();
        shares();
        draws();
        gangs();
        costsOfScraping();
        costsOfMendingAndLining();
        summers();
        gauges();
        refusedCalls();
        firstOfSeveral();
    }

    private static String refusal(Class<?> want) {
        return want.getName();
    }

    private void refused(String what, Class<?> want, Checks.Call call) {
        checks.holds(what, want.getName(), Checks.outcome(call));
    }

    /** Castle 1 with so many open litres a month, and nozzles of houses of these bores. */
    private static CuratorAquarum houses(int... bores) {
        CuratorAquarum x = new CuratorAquarum();
        x.spring(999, 3000, 0, 0);
        x.node('c', 0);
        x.siphon(0, 1, 1, 20, 0, 1);
        for (int bore : bores) {
            x.nozzle(1, 'h', bore, 0);
        }
        return x;
    }

    private void numbersOfPeople() {
        checks.sentence("Persons and houses are numbered from 0 to 29.");
        for (int edge : new int[] {0, 29}) {
            CuratorAquarum x = houses(10, 10);
            checks.holds("grant", 1, x.grant(edge, edge, 0));
            checks.holds("granted", 0, x.granted(edge, edge));
            checks.holds("holder", edge, x.holder(0));
            checks.holds("enlist", 1, x.enlist(edge, 29 - edge, 5));
            checks.holds("dealt", 1, x.deal());
            checks.holds("granted for another house", 1, x.granted(edge, 29 - edge));
            checks.holds("giveBack", 0, x.giveBack(edge, edge));
            checks.holds("sell", 1, x.sell(29 - edge));
            checks.holds("die", 0, x.die(edge));
        }
        for (int wrong : new int[] {-1, 30}) {
            CuratorAquarum x = houses(10);
            refused("grant, person", Checks.ARGUMENT, () -> x.grant(wrong, 0, 0));
            refused("grant, house", Checks.ARGUMENT, () -> x.grant(0, wrong, 0));
            refused("granted, person", Checks.ARGUMENT, () -> x.granted(wrong, 0));
            refused("granted, house", Checks.ARGUMENT, () -> x.granted(0, wrong));
            refused("giveBack, person", Checks.ARGUMENT, () -> x.giveBack(wrong, 0));
            refused("giveBack, house", Checks.ARGUMENT, () -> x.giveBack(0, wrong));
            refused("enlist, person", Checks.ARGUMENT, () -> x.enlist(wrong, 0, 5));
            refused("enlist, house", Checks.ARGUMENT, () -> x.enlist(0, wrong, 5));
            refused("die", Checks.ARGUMENT, () -> x.die(wrong));
            refused("sell", Checks.ARGUMENT, () -> x.sell(wrong));
        }
    }

    private void grants() {
        checks.sentence("A grant gives a person for a house a nozzle of houses that has no holder, which is open then; a person "
                + "has one for a house at most.");
        CuratorAquarum x = houses(10, 10, 10, 10);
        x.nozzle(1, 'b', 10, 0);
        x.nozzle(1, 'a', 10, 0);
        x.month();
        checks.holds("shut without a holder", 0, x.given(0));
        checks.holds("the first", 1, x.grant(7, 8, 0));
        checks.holds("open then", 200, x.given(0));
        checks.holds("it was not shut", false, x.close(0, false));
        checks.holds("the same person for another house", 2, x.grant(7, 9, 1));
        checks.holds("another person for the same house", 3, x.grant(8, 8, 2));
        refused("the same for the same", Checks.UNSUPPORTED, () -> x.grant(7, 8, 3));
        refused("it has a holder", Checks.UNSUPPORTED, () -> x.grant(9, 9, 0));
        refused("its holder himself", Checks.UNSUPPORTED, () -> x.grant(7, 8, 0));
        refused("of basins", Checks.UNSUPPORTED, () -> x.grant(9, 9, 4));
        refused("of baths", Checks.UNSUPPORTED, () -> x.grant(9, 9, 5));
        checks.holds("the last one", 4, x.grant(9, 9, 3));
        checks.holds("who has which", 0, x.granted(7, 8));
        checks.holds("who has which", 1, x.granted(7, 9));
        checks.holds("who has which", 2, x.granted(8, 8));
        checks.holds("shut by its holder", false, x.close(0, true));
        checks.holds("he has it all the same", 7, x.holder(0));
        x.giveBack(7, 8);
        checks.holds("granted again it is open", 4, x.grant(7, 8, 0));
        checks.holds("it is", 200, x.given(0));
    }

    private void endsOfGrants() {
        checks.sentence("It ends as the person dies, or the house is sold, or it is given back; then the nozzle has no holder, "
                + "and is shut.");
        for (int way = 0; way < 3; way++) {
            CuratorAquarum x = houses(10, 10, 10, 10);
            x.grant(1, 5, 0);
            x.grant(1, 6, 1);
            x.grant(2, 5, 2);
            x.grant(2, 6, 3);
            x.month();
            int ended = way == 0 ? x.die(1) : way == 1 ? x.sell(5) : x.giveBack(1, 5);
            checks.holds("how many, or which", way == 2 ? 0 : 2, ended);
            boolean[] ends = {true, way == 0, way == 1, false};
            for (int i = 0; i < 4; i++) {
                int nozzle = i;
                Object holder = ends[i] ? refusal(Checks.NOTHING) : (Object) (1 + i / 2);
                checks.holds("holder of " + i, holder, Checks.outcome(() -> x.holder(nozzle)));
                checks.holds("it gives", ends[i] ? 0 : 200, x.given(i));
                Object shut = ends[i] ? refusal(Checks.UNSUPPORTED) : (Object) false;
                checks.holds("it is shut", shut, Checks.outcome(() -> x.close(nozzle, false)));
            }
            refused("none any more", Checks.NOTHING, () -> x.granted(1, 5));
            refused("nor to give back", Checks.NOTHING, () -> x.giveBack(1, 5));
            checks.holds("the share held", (float) (way == 2 ? 3 : 2) / 4.0f, x.heldShare());
            x.month();
            checks.holds("use", way == 2 ? 600 : 400, x.account('u'));
            checks.holds("to be granted anew", way == 2 ? 4 : 3, x.grant(3, 5, 0));
        }
    }

    private void list() {
        checks.sentence("At most 12 wait on a list, each for a house, with the least bore that is wanted; who has that house "
                + "already, as the list is gone through from its beginning for a nozzle, is struck off.");
        CuratorAquarum x = houses();
        for (int i = 1; i <= 12; i++) {
            checks.holds("how many", i, x.enlist(i / 4, i / 6, i % 2 == 0 ? 5 : 40));
        }
        refused("13th", Checks.STATE, () -> x.enlist(0, 0, 5));
        refused("bore 4", Checks.ARGUMENT, () -> x.enlist(0, 0, 4));
        refused("bore 41", Checks.ARGUMENT, () -> x.enlist(0, 0, 41));
        // Who has his house is struck off only as the list is gone through, and as far as it is.
        CuratorAquarum y = houses(20, 20, 20);
        y.enlist(1, 1, 5);
        y.enlist(1, 2, 21);
        y.enlist(2, 1, 20);
        y.enlist(1, 1, 5);
        y.grant(1, 1, 0);
        checks.holds("not by the grant", 5, y.enlist(1, 3, 20));
        checks.holds("two are given", 2, y.deal());
        checks.holds("for that house, not to that person", 1, y.granted(2, 1));
        checks.holds("to that person, not for that house", 2, y.granted(1, 3));
        checks.holds("one waits on", 2, y.enlist(3, 3, 40));
        // A list that was left at the one who got the nozzle is not gone through behind him.
        CuratorAquarum z = houses(20, 20);
        z.grant(1, 1, 0);
        z.enlist(2, 2, 20);
        z.enlist(1, 1, 20);
        checks.holds("one is given", 1, z.deal());
        checks.holds("behind him nobody is struck off", 2, z.enlist(3, 3, 40));
        checks.holds("no nozzle is free", 0, z.deal());
        checks.holds("so nobody is struck off", 3, z.enlist(3, 4, 40));
        z.nozzle(1, 'h', 5, 0);
        checks.holds("none fits", 0, z.deal());
        checks.holds("but it was gone through", 3, z.enlist(3, 5, 40));
    }

    private void dealing() {
        checks.sentence("To deal goes through nozzles of houses without a holder by numbers: each is given to the first one on "
                + "the list whose least bore is not above the stamped one; it is open then.");
        CuratorAquarum x = houses(9, 10, 11, 40, 5);
        x.nozzle(1, 'b', 40, 0);
        x.nozzle(1, 'a', 40, 0);
        x.widen(0, 60);
        x.grant(0, 0, 3);
        x.close(3, true);
        x.enlist(1, 1, 11);
        x.enlist(2, 2, 10);
        x.enlist(3, 3, 10);
        x.enlist(4, 4, 40);
        x.month();
        checks.holds("two fit", 2, x.deal());
        refused("9 is too little, whatever it is in truth", Checks.NOTHING, () -> x.holder(0));
        checks.holds("10 for the first who wants 10", 2, x.holder(1));
        checks.holds("11 for the first of all", 1, x.holder(2));
        checks.holds("40 has a holder", 0, x.holder(3));
        checks.holds("whose nozzle stays shut", true, x.close(3, true));
        refused("5 is too little", Checks.NOTHING, () -> x.holder(4));
        refused("basins are not dealt", Checks.NOTHING, () -> x.holder(5));
        refused("baths are not dealt", Checks.NOTHING, () -> x.holder(6));
        checks.holds("open then", 200, x.given(1));
        checks.holds("open then", false, x.close(2, false));
        checks.holds("for their houses", 1, x.granted(2, 2));
        checks.holds("two wait on", 3, x.enlist(5, 5, 5));
        checks.holds("the last one wants 5", 1, x.deal());
        checks.holds("the lowest free one", 5, x.holder(0));
        x.sell(0);
        checks.holds("whose nozzle came free", 1, x.deal());
        checks.holds("to the first who fits", 3, x.holder(3));
        checks.holds("it is open", false, x.close(3, false));
        checks.holds("one waits still", 2, x.enlist(6, 6, 40));
        CuratorAquarum empty = houses();
        empty.enlist(1, 1, 5);
        checks.holds("no nozzles", 0, empty.deal());
        checks.holds("nobody waits", 0, houses(10, 10).deal());
    }

    private void dead() {
        checks.sentence("Who died holds nothing any more, and is struck off at once.");
        CuratorAquarum x = houses(10, 10, 10);
        x.grant(1, 1, 0);
        x.grant(1, 2, 1);
        x.grant(2, 2, 2);
        x.enlist(1, 3, 5);
        x.enlist(2, 3, 5);
        x.enlist(1, 4, 5);
        x.enlist(3, 5, 5);
        x.enlist(1, 3, 5);
        checks.holds("two grants end", 2, x.die(1));
        checks.holds("two wait on, and one more", 3, x.enlist(4, 4, 5));
        refused("no holder", Checks.NOTHING, () -> x.holder(0));
        refused("no holder", Checks.NOTHING, () -> x.holder(1));
        refused("no grant", Checks.NOTHING, () -> x.granted(1, 1));
        refused("nothing to give back", Checks.NOTHING, () -> x.giveBack(1, 2));
        refused("none anew", Checks.UNSUPPORTED, () -> x.grant(1, 1, 0));
        refused("nor on the list", Checks.UNSUPPORTED, () -> x.enlist(1, 1, 5));
        refused("he dies but once", Checks.UNSUPPORTED, () -> x.die(1));
        checks.holds("others hold theirs", 2, x.holder(2));
        checks.holds("sound", true, x.isSound());
        checks.holds("dealt to the living", 2, x.deal());
        checks.holds("in their order", 2, x.holder(0));
        checks.holds("in their order", 3, x.holder(1));
        checks.holds("sound", true, x.isSound());
    }

    // Rounds

    private static int next(int z) {
        return (int) ((long) z * 48271L % 2147483647L);
    }

    /** The least z whose draw is just that. */
    private static int zBefore(int draw) {
        int z = 1;
        while (next(z) % 100 != draw) {
            z++;
        }
        return z;
    }

    private static final String OF_ROUNDS_ALONG = "A round along a stretch finds each hole, in the order in which they were made, "
            + "by a draw of 100 that is less than the care, 0 to 100, 50 at first; one that is found is closed, for a fine of 10 "
            + "times its size.";

    private static CuratorAquarum twoStretches() {
        CuratorAquarum x = new CuratorAquarum();
        x.spring(999, 5000, 0, 0);
        x.node('t', 899);
        x.channel(0, 1, 1, 5);
        x.siphon(0, 1, 1, 10, 0, 1);
        return x;
    }

    private void roundsAlong() {
        checks.sentence(OF_ROUNDS_ALONG);
        int[] sizes = {1, 10, 100, 7, 70};
        for (int seed = 1; seed < 40; seed++) {
            CuratorAquarum x = twoStretches();
            for (int size : sizes) {
                x.hole(seed % 2, size);
            }
            x.hole(1 - seed % 2, 300);
            x.seed(seed);
            int[] kept = sizes;
            int z = seed;
            int fines = 0;
            for (int round = 0; round < 3; round++) {
                int left = 0;
                int[] stay = new int[kept.length];
                for (int size : kept) {
                    z = next(z);
                    if (z % 100 < 50) {
                        fines += 10 * size;
                    } else {
                        stay[left] = size;
                        left++;
                    }
                }
                int found = kept.length - left;
                kept = java.util.Arrays.copyOf(stay, left);
                String what = "seed " + seed + ", round " + round;
                checks.holds(what, found, x.roundAlong(seed % 2));
                checks.holds(what + ", fines", fines, x.fines(true) + x.fines(false));
                x.month();
                int sum = 0;
                for (int size : kept) {
                    sum += size;
                }
                checks.holds(what + ", what the others take", sum, x.missing(seed % 2));
                checks.holds(what + ", the other stretch", 300, x.missing(1 - seed % 2));
            }
            checks.holds("a draw for each hole", z, x.seed(1));
        }
    }

    private void careAtItsEdges() {
        checks.sentence(OF_ROUNDS_ALONG);
        checks.holds("50 at first", 50, twoStretches().care(50));
        for (int draw : new int[] {0, 1, 48, 49, 50, 51, 98, 99}) {
            for (int care : new int[] {-1, 0, 1, 2, 49, 50, 51, 99, 100}) {
                CuratorAquarum x = twoStretches();
                x.hole(0, 500);
                x.seed(zBefore(draw));
                if (care >= 0) {
                    x.care(care);
                }
                boolean isFound = draw < (care < 0 ? 50 : care);
                String what = "draw " + draw + ", care " + care;
                checks.holds(what, isFound ? 1 : 0, x.roundAlong(0));
                checks.holds(what + ", fine", isFound ? 5000 : 0, x.fines(true) + x.fines(false));
                checks.holds(what + ", closed", isFound ? 1 : 2, x.hole(0, 1));
            }
        }
        CuratorAquarum x = twoStretches();
        refused("care -1", Checks.ARGUMENT, () -> x.care(-1));
        refused("care 101", Checks.ARGUMENT, () -> x.care(101));
        checks.holds("without holes", 0, x.roundAlong(0));
        checks.holds("no draw", 1, x.seed(1));
    }

    private void roundsOfCastles() {
        checks.sentence("A round of a castle finds each nozzle whose real bore is not the stamped one, by numbers, likewise; its "
                + "real bore is the stamped one then, for a fine of 100.");
        for (int seed = 1; seed < 40; seed++) {
            CuratorAquarum x = houses(10, 20, 30);
            x.node('c', 1);
            x.nozzle(1, 'b', 40, 0);
            x.nozzle(1, 'a', 5, 0);
            x.nozzle(2, 'b', 10, 0);
            x.nozzle(1, 'a', 6, 0);
            x.close(4, true);
            int[] stamps = {10, 20, 30, 40, 5, 10, 6};
            int[] real = {11, 20, 60, 41, 60, 33, 6};
            for (int i = 0; i < real.length; i++) {
                x.widen(i, real[i]);
            }
            x.seed(seed);
            int z = seed;
            int found = 0;
            for (int i = 0; i < real.length; i++) {
                if (i != 5 && real[i] != stamps[i]) {
                    z = next(z);
                    if (z % 100 < 50) {
                        real[i] = stamps[i];
                        found++;
                    }
                }
            }
            checks.holds("seed " + seed, found, x.roundOf(1));
            checks.holds("seed " + seed + ", fines", 100 * found, x.fines(true) + x.fines(false));
            checks.holds("seed " + seed + ", a draw for each that is not as stamped", z, x.seed(seed));
            for (int i = 0; i < real.length; i++) {
                checks.holds("seed " + seed + ", nozzle " + i, real[i], x.widen(i, 60));
            }
        }
        for (int draw : new int[] {0, 69, 70, 99}) {
            CuratorAquarum x = houses(10);
            x.widen(0, 11);
            x.care(70);
            x.seed(zBefore(draw));
            checks.holds("draw " + draw + " by the care of 70", draw < 70 ? 1 : 0, x.roundOf(1));
        }
        CuratorAquarum none = houses();
        checks.holds("without nozzles", 0, none.roundOf(1));
        checks.holds("no fine", 0, none.fines(true) + none.fines(false));
    }

    private void shares() {
        checks.sentence("The one who told gets half of all fines of a round, cut, the fisc the rest; purses have nothing of that.");
        CuratorAquarum x = houses(10, 10, 10);
        x.care(100);
        x.hole(0, 1);
        x.roundAlong(0);
        checks.holds("half of 10", 5, x.fines(true));
        checks.holds("the rest", 5, x.fines(false));
        x.hole(0, 500);
        x.hole(0, 3);
        x.roundAlong(0);
        checks.holds("and half of 5030", 2520, x.fines(true));
        checks.holds("and the rest", 2520, x.fines(false));
        for (int i = 0; i < 3; i++) {
            x.widen(i, 60);
        }
        x.roundOf(1);
        checks.holds("and half of 300", 2670, x.fines(true));
        checks.holds("and the rest", 2670, x.fines(false));
        x.roundOf(1);
        x.roundAlong(0);
        checks.holds("nothing was found", 2670, x.fines(true));
        checks.holds("the purse of the fisc", 1000, x.purse('f', 0));
        checks.holds("the purse of the estate", 1000, x.purse('e', 0));
    }

    private void draws() {
        checks.sentence("A draw makes z, 1 at first, z times 48271 modulo 2147483647, and is that modulo 100.");
        CuratorAquarum x = twoStretches();
        x.care(0);
        x.hole(0, 1);
        x.roundAlong(0);
        checks.holds("1 at first, 48271 then", 48271, x.seed(48271));
        x.roundAlong(0);
        checks.holds("182605794 behind it", 182605794, x.seed(2147483646));
        x.roundAlong(0);
        checks.holds("of the greatest", 2147435376, x.seed(44488));
        x.roundAlong(0);
        checks.holds("of the greatest that is below the modulus as a product", 44488 * 48271, x.seed(44489));
        x.roundAlong(0);
        checks.holds("of one more", 44872, x.seed(1));
        for (int seed : new int[] {1, 2, 3, 44488, 44489, 1073741823, 2147483645, 2147483646}) {
            int draw = next(seed) % 100;
            x.seed(seed);
            x.care(draw);
            checks.holds("the draw is not less than itself", 0, x.roundAlong(0));
            x.seed(seed);
            x.care(draw + 1);
            checks.holds("but less than one more", 1, x.roundAlong(0));
            x.hole(0, 1);
        }
        refused("z 0", Checks.ARGUMENT, () -> x.seed(0));
        refused("z 2147483647", Checks.ARGUMENT, () -> x.seed(2147483647));
    }

    // Gangs

    private void gangs() {
        checks.sentence("There are the gang 'f' of the fisc and the gang 'e' of the estate, with purses of 1000 at first.");
        CuratorAquarum x = twoStretches();
        checks.holds("of the fisc", 1000, x.purse('f', 0));
        checks.holds("of the estate", 1000, x.purse('e', 0));
        x.cut(0);
        x.mend(0, 'f');
        checks.holds("each pays for itself", 975, x.purse('f', 0));
        checks.holds("each pays for itself", 1000, x.purse('e', 0));
        x.line(0, 'e', 1);
        checks.holds("each pays for itself", 975, x.purse('f', 0));
        checks.holds("each pays for itself", 997, x.purse('e', 0));
        checks.holds("each is filled by itself", 10974, x.purse('f', 9999));
        checks.holds("each is filled by itself", 998, x.purse('e', 1));
        for (char wrong : new char[] {'F', 'E', 'd', 'g', (char) 0, (char) 65535}) {
            refused("no such gang", Checks.ARGUMENT, () -> x.purse(wrong, 0));
        }
    }

    private static final String OF_COSTS = "Work costs its gang: to scrape a channel a tenth, begun ones counted whole, of its "
            + "crust, times the length; to mend a broken stretch 5 times its length and width; to line one anew so that it has a "
            + "lesser leak, 3 times its length for each by which that is less.";

    /** By a hardness of 1 to 9 a month of 2000 leaves as much crust. */
    private void costsOfScraping() {
        checks.sentence(OF_COSTS);
        for (int hardness = 1; hardness <= 9; hardness++) {
            for (int months = 1; months <= 4; months++) {
                int crust = hardness * months;
                boolean isNarrow = hardness * (months - 1) >= 10;
                CuratorAquarum x = new CuratorAquarum();
                x.spring(999, 5000, 0, hardness);
                x.node('t', 699);
                x.channel(0, 1, 3, 20);
                for (int i = 0; i < months; i++) {
                    x.month();
                }
                if (!isNarrow) {
                    checks.holds("crust", crust, x.crust(0));
                }
                int tenths = x.crust(0) / 10 + (x.crust(0) % 10 > 0 ? 1 : 0);
                char gang = "fe".charAt(months % 2);
                checks.holds("cost of " + x.crust(0), 3 * tenths, x.scrape(0, gang));
                checks.holds("paid", 1000 - 3 * tenths, x.purse(gang, 0));
                checks.holds("no crust", 0, x.crust(0));
                checks.holds("as wide as at first", 2000, x.capacity(0));
            }
        }
    }

    private void costsOfMendingAndLining() {
        checks.sentence(OF_COSTS);
        for (int[] d : new int[][] {{1, 1}, {99, 2}, {10, 20}, {7, 13}}) {
            CuratorAquarum x = twoStretches();
            x.siphon(0, 1, d[0], d[1], 0, 1);
            x.cut(2);
            checks.holds("to mend " + d[0] + " by " + d[1], 5 * d[0] * d[1], x.mend(2, 'e'));
            checks.holds("paid", 1000 - 5 * d[0] * d[1], x.purse('e', 0));
            checks.holds("it is whole", false, x.isBroken(2));
            checks.holds("to line " + d[0] + " by 2", 6 * d[0], x.line(2, 'f', 0));
            checks.holds("paid", 1000 - 6 * d[0], x.purse('f', 0));
            x.siphon(0, 1, d[0], 1, 0, 1);
            x.purse('f', 5000);
            checks.holds("by 1", 3 * d[0], x.line(3, 'f', 1));
            checks.holds("by 1 more", 3 * d[0], x.line(3, 'f', 0));
        }
        // To the last coin: 1000 and not 1 more.
        for (int more = 0; more <= 1; more++) {
            CuratorAquarum x = twoStretches();
            x.siphon(0, 1, 20, 10, 0, 1);
            x.siphon(0, 1, 67, 3, 0, 1);
            int stretch = 2 + more;
            x.cut(stretch);
            Object due = more == 0 ? (Object) 1000 : refusal(Checks.UNSUPPORTED);
            checks.holds("by a purse of 1000", due, Checks.outcome(() -> x.mend(stretch, 'f')));
            checks.holds("what is left", more == 0 ? 0 : 1000, x.purse('f', 0));
            checks.holds("whole", more == 1, x.isBroken(stretch));
            x.purse('f', 4);
            refused("1005 and 4 more than nothing", Checks.UNSUPPORTED, () -> x.mend(stretch, 'f'));
            if (more == 1) {
                x.purse('f', 1);
                checks.holds("all that is in it", 1005, x.mend(stretch, 'f'));
                checks.holds("nothing is left", 0, x.purse('f', 0));
            }
        }
    }

    private void summers() {
        checks.sentence("As a month 5, 6 or 7 of the year is the next one, no channel is scraped.");
        CuratorAquarum x = new CuratorAquarum();
        x.spring(999, 5000, 0, 9);
        x.node('t', 799);
        x.channel(0, 1, 1, 20);
        x.siphon(0, 1, 1, 1, 0, 1);
        for (int next = 1; next <= 37; next++) {
            x.month();
            int m = next % 12;
            Object due = m == 5 || m == 6 || m == 7 ? refusal(Checks.UNSUPPORTED) : (Object) ((x.crust(0) + 9) / 10);
            checks.holds("month " + next + " is next", due, Checks.outcome(() -> x.scrape(0, 'e')));
            x.cut(1);
            checks.holds("but a stretch is mended", 5, x.mend(1, 'f'));
            x.purse('f', 5);
        }
        for (int i = 37; i < 42; i++) {
            x.month();
        }
        checks.holds("and lined, as month 42 is next", 3, x.line(0, 'f', 1));
    }

    private void gauges() {
        checks.sentence("Of the last month it is known of each stretch what ran into it, what came out, and what leaked; what is "
                + "missing is the rest.");
        CuratorAquarum x = new CuratorAquarum();
        x.spring(999, 1000, 0, 0);
        x.node('t', 899);
        x.channel(0, 1, 50, 15);
        x.hole(0, 25);
        checks.holds("ahead of the first month", 0, x.gauge(0, false) + x.gauge(0, true) + x.missing(0));
        x.month();
        checks.holds("in", 15 * 14, x.gauge(0, false));
        checks.holds("leak", 21, x.account('l'));
        checks.holds("missing", 25, x.missing(0));
        checks.holds("out", 210 - 21 - 25, x.gauge(0, true));
        checks.holds("the stretch", 0, x.suspect());
        x.siphon(0, 1, 1, 1, 0, 1);
        x.hole(1, 500);
        checks.holds("one that had no month yet", 0, x.gauge(1, false) + x.gauge(1, true) + x.missing(1));
        x.hole(0, 25);
        x.care(100);
        x.roundAlong(0);
        x.cut(0);
        x.shut(0, true);
        checks.holds("of the last month all the same", 25, x.missing(0));
        checks.holds("of the last month all the same", 210, x.gauge(0, false));
        x.month();
        checks.holds("broken and shut", 0, x.gauge(0, false) + x.gauge(0, true) + x.missing(0));
        checks.holds("in", 50, x.gauge(1, false));
        checks.holds("out", 0, x.gauge(1, true));
        checks.holds("missing", 50, x.missing(1));
        checks.holds("the stretch", 1, x.suspect());
    }

    // Exceptions: RefusedTest has them all

    private void refusedCalls() {
        checks.sentence("A method that throws an exception changes nothing.");
        CuratorAquarum x = twoStretches();
        x.node('c', 5);
        x.siphon(1, 2, 67, 3, 0, 1);
        x.nozzle(2, 'h', 10, 0);
        x.cut(2);
        long sum = x.checksum();
        refused("purse of 1000 for 1005", Checks.UNSUPPORTED, () -> x.mend(2, 'e'));
        checks.holds("broken still", true, x.isBroken(2));
        checks.holds("nothing was paid", 1000, x.purse('e', 0));
        refused("nobody's nozzle", Checks.UNSUPPORTED, () -> x.close(0, false));
        refused("it has no holder", Checks.NOTHING, () -> x.holder(0));
        refused("bore", Checks.ARGUMENT, () -> x.widen(0, 61));
        checks.holds("as stamped", 10, x.widen(0, 10));
        refused("z", Checks.ARGUMENT, () -> x.seed(0));
        refused("care", Checks.ARGUMENT, () -> x.care(101));
        checks.holds("care as before", 50, x.care(50));
        refused("rain", Checks.ARGUMENT, () -> x.rain(100));
        checks.holds("rain as before", 0, x.rain(0));
        refused("order", Checks.ARGUMENT, () -> x.order(2, 6));
        checks.holds("order as before", 0, x.order(2, 0));
        checks.holds("the sum over all", sum, x.checksum());
    }

    private void firstOfSeveral() {
        checks.sentence("If several exceptions apply, the one that is listed first is thrown.");
        CuratorAquarum x = twoStretches();
        x.node('c', 5);
        x.die(3);
        refused("no node, ahead of all", Checks.INDEX, () -> x.channel(9, 1, 0, 0));
        refused("no length, ahead of the way", Checks.ARGUMENT, () -> x.channel(1, 0, 0, 1));
        refused("no node, ahead of no chamber", Checks.INDEX, () -> x.level(9, 'x'));
        refused("no chamber, ahead of no castle", Checks.ARGUMENT, () -> x.level(1, 'x'));
        refused("no castle", Checks.UNSUPPORTED, () -> x.level(1, 'b'));
        refused("no nozzle, ahead of no person", Checks.INDEX, () -> x.grant(30, 0, 0));
        refused("no house, ahead of a dead one", Checks.ARGUMENT, () -> x.enlist(3, 30, 5));
        for (int i = 2; i < 20; i++) {
            x.siphon(0, 1, 1, 1, 0, 1);
        }
        refused("no way, ahead of 20", Checks.UNSUPPORTED, () -> x.channel(1, 0, 1, 1));
        refused("no width, ahead of 20", Checks.ARGUMENT, () -> x.siphon(0, 1, 1, 0, 0, 1));
        refused("20", Checks.STATE, () -> x.siphon(0, 1, 1, 1, 0, 1));
        for (int i = 0; i < 12; i++) {
            x.enlist(4, i, 5);
        }
        refused("a dead one, ahead of 12", Checks.UNSUPPORTED, () -> x.enlist(3, 0, 5));
        refused("12", Checks.STATE, () -> x.enlist(4, 0, 5));
    }
}
