/** Promises 31 to 38: grants, those who die, houses that are sold, and the list of those who wait. */
public final class GrantsTest {
    private static final int[] WRONG_NUMBERS = {Integer.MIN_VALUE, -1, 30, Integer.MAX_VALUE};
    private static final Checks checks = new Checks();

    public static void main(String[] args) {
        grants();
        grantsRefused();
        giveBack();
        die();
        sell();
        enlist();
        enlistRefused();
        deal();
        strikeOff();
        strikeOffBeforeTheTakerAlone();
        listWithinADeal();
        checks.end();
    }

    /** Nozzles 0 to 4 of houses with bores 10, 8, 20, 30 and 40, and 5 of basins. */
    private static CuratorAquarum city() {
        CuratorAquarum x = new CuratorAquarum();
        x.node('c', 10);
        x.nozzle(0, 'h', 10, 0);
        x.nozzle(0, 'h', 8, 0);
        x.nozzle(0, 'h', 20, 0);
        x.nozzle(0, 'h', 30, 0);
        x.nozzle(0, 'h', 40, 0);
        x.nozzle(0, 'b', 40, 0);
        return x;
    }

    private static void grants() {
        CuratorAquarum x = city();
        checks.due(31, "first", 1, x.grant(0, 0, 2));
        checks.due(31, "another house", 2, x.grant(0, 29, 0));
        checks.due(31, "another person for that house", 3, x.grant(29, 0, 4));
        checks.due(31, "open then", false, x.close(2, false));
        checks.due(32, "granted", 2, x.granted(0, 0));
        checks.due(32, "granted", 0, x.granted(0, 29));
        checks.due(32, "granted", 4, x.granted(29, 0));
        checks.due(33, "holder", 0, x.holder(2));
        checks.due(33, "holder", 29, x.holder(4));
        checks.refused(32, "none", x, Checks.NOTHING, () -> x.granted(29, 29));
        checks.refused(32, "none", x, Checks.NOTHING, () -> x.granted(1, 0));
        checks.refused(33, "none", x, Checks.NOTHING, () -> x.holder(1));
        checks.refused(33, "none of basins", x, Checks.NOTHING, () -> x.holder(5));
        for (int wrong : WRONG_NUMBERS) {
            checks.refused(32, "person", x, Checks.ARGUMENT, () -> x.granted(wrong, 0));
            checks.refused(32, "house", x, Checks.ARGUMENT, () -> x.granted(0, wrong));
            checks.refused(33, "no nozzle", x, Checks.INDEX, () -> x.holder(wrong));
        }
        checks.refused(33, "no nozzle", x, Checks.INDEX, () -> x.holder(6));
    }

    private static void grantsRefused() {
        CuratorAquarum x = city();
        x.grant(1, 1, 0);
        x.die(2);
        for (int wrong : WRONG_NUMBERS) {
            checks.refused(31, "no nozzle", x, Checks.INDEX, () -> x.grant(-1, -1, wrong));
            checks.refused(31, "person", x, Checks.ARGUMENT, () -> x.grant(wrong, 0, 5));
            checks.refused(31, "house", x, Checks.ARGUMENT, () -> x.grant(2, wrong, 1));
        }
        checks.refused(31, "no nozzle", x, Checks.INDEX, () -> x.grant(0, 0, 6));
        checks.refused(31, "died", x, Checks.UNSUPPORTED, () -> x.grant(2, 2, 1));
        checks.refused(31, "has one for that house", x, Checks.UNSUPPORTED, () -> x.grant(1, 1, 1));
        checks.refused(31, "not of houses", x, Checks.UNSUPPORTED, () -> x.grant(3, 3, 5));
        checks.refused(31, "has a holder", x, Checks.UNSUPPORTED, () -> x.grant(3, 3, 0));
        checks.due(31, "just one before", 2, x.grant(1, 2, 1));
    }

    private static void giveBack() {
        CuratorAquarum x = city();
        x.grant(1, 1, 3);
        x.grant(1, 2, 4);
        x.widen(3, 50);
        checks.refused(34, "none", x, Checks.NOTHING, () -> x.giveBack(2, 1));
        checks.refused(34, "none", x, Checks.NOTHING, () -> x.giveBack(1, 3));
        checks.due(34, "the nozzle", 3, x.giveBack(1, 1));
        checks.refused(34, "again", x, Checks.NOTHING, () -> x.giveBack(1, 1));
        checks.refused(34, "no holder then", x, Checks.NOTHING, () -> x.holder(3));
        checks.refused(34, "shut then", x, Checks.UNSUPPORTED, () -> x.close(3, false));
        checks.due(34, "the other stays", 4, x.granted(1, 2));
        checks.due(34, "the real bore stays", 50, x.widen(3, 50));
        for (int wrong : WRONG_NUMBERS) {
            checks.refused(34, "person", x, Checks.ARGUMENT, () -> x.giveBack(wrong, 0));
            checks.refused(34, "house", x, Checks.ARGUMENT, () -> x.giveBack(0, wrong));
        }
        checks.due(34, "to be granted again", 2, x.grant(5, 5, 3));
        checks.due(34, "open again", false, x.close(3, false));
    }

    private static void die() {
        CuratorAquarum x = city();
        x.grant(7, 1, 3);
        x.grant(7, 2, 0);
        x.grant(8, 2, 2);
        x.enlist(7, 3, 5);
        x.enlist(8, 3, 5);
        x.enlist(7, 4, 5);
        checks.due(35, "how many end", 2, x.die(7));
        checks.refused(35, "again", x, Checks.UNSUPPORTED, () -> x.die(7));
        checks.refused(35, "no holder then", x, Checks.NOTHING, () -> x.holder(0));
        checks.refused(35, "no holder then", x, Checks.NOTHING, () -> x.holder(3));
        checks.refused(35, "shut then", x, Checks.UNSUPPORTED, () -> x.close(3, false));
        checks.due(35, "another's stays", 8, x.holder(2));
        checks.due(35, "struck off at once", 2, x.enlist(9, 9, 5));
        checks.due(35, "who has none", 0, x.die(0));
        checks.due(35, "the last person", 0, x.die(29));
        checks.refused(35, "nothing for the dead", x, Checks.UNSUPPORTED, () -> x.grant(0, 0, 0));
        for (int wrong : WRONG_NUMBERS) {
            checks.refused(35, "person", x, Checks.ARGUMENT, () -> x.die(wrong));
        }
        checks.due(35, "sound", true, x.isSound());
    }

    private static void sell() {
        CuratorAquarum x = city();
        checks.due(36, "none", 0, x.sell(0));
        x.grant(7, 1, 3);
        x.grant(8, 1, 0);
        x.grant(8, 29, 2);
        x.enlist(9, 1, 40);
        checks.due(36, "how many end", 2, x.sell(1));
        checks.due(36, "again", 0, x.sell(1));
        checks.refused(36, "no holder then", x, Checks.NOTHING, () -> x.holder(0));
        checks.refused(36, "shut then", x, Checks.UNSUPPORTED, () -> x.close(3, false));
        checks.due(36, "another house stays", 8, x.holder(2));
        checks.due(36, "who waits for it stays", 2, x.enlist(7, 1, 5));
        checks.due(36, "the last house", 1, x.sell(29));
        for (int wrong : WRONG_NUMBERS) {
            checks.refused(36, "house", x, Checks.ARGUMENT, () -> x.sell(wrong));
        }
    }

    private static void enlist() {
        CuratorAquarum x = city();
        for (int i = 1; i <= 12; i++) {
            checks.due(37, "how many", i, x.enlist(i % 3, i % 4, i == 1 ? 5 : 40));
        }
        checks.refused(37, "13th", x, Checks.STATE, () -> x.enlist(0, 0, 5));
        checks.refused(37, "13th out of range", x, Checks.ARGUMENT, () -> x.enlist(0, 0, 4));
        x.die(5);
        checks.refused(37, "13th, dead", x, Checks.UNSUPPORTED, () -> x.enlist(5, 0, 5));
        checks.due(37, "four leave", 0, x.die(0));
        checks.due(37, "room again", 9, x.enlist(1, 0, 5));
    }

    private static void enlistRefused() {
        CuratorAquarum x = city();
        x.die(3);
        for (int wrong : WRONG_NUMBERS) {
            checks.refused(37, "person", x, Checks.ARGUMENT, () -> x.enlist(wrong, 0, 5));
            checks.refused(37, "house", x, Checks.ARGUMENT, () -> x.enlist(3, wrong, 5));
        }
        checks.refused(37, "bore 4", x, Checks.ARGUMENT, () -> x.enlist(3, 0, 4));
        checks.refused(37, "bore 41", x, Checks.ARGUMENT, () -> x.enlist(0, 0, 41));
        checks.refused(37, "dead", x, Checks.UNSUPPORTED, () -> x.enlist(3, 0, 40));
        checks.due(37, "none came in", 1, x.enlist(29, 29, 40));
    }

    private static void deal() {
        CuratorAquarum x = city();
        checks.due(38, "no one waits", 0, x.deal());
        x.enlist(1, 1, 11);
        x.enlist(2, 2, 9);
        x.enlist(3, 3, 8);
        x.enlist(4, 4, 40);
        x.grant(9, 9, 3);
        x.widen(0, 60);
        checks.due(38, "four", 4, x.deal());
        checks.due(38, "bore 10 by the stamp", 2, x.holder(0));
        checks.due(38, "bore 8", 3, x.holder(1));
        checks.due(38, "bore 20", 1, x.holder(2));
        checks.due(38, "held before", 9, x.holder(3));
        checks.due(38, "bore 40", 4, x.holder(4));
        checks.due(38, "open then", false, x.close(4, false));
        checks.due(38, "for his house", 4, x.granted(4, 4));
        checks.refused(38, "basins are not dealt", x, Checks.NOTHING, () -> x.holder(5));
        checks.due(38, "the list is empty", 1, x.enlist(1, 1, 5));
    }

    private static void strikeOff() {
        CuratorAquarum x = city();
        x.enlist(1, 1, 40);
        x.enlist(1, 1, 5);
        x.grant(1, 1, 4);
        x.enlist(2, 1, 15);
        x.enlist(1, 2, 10);
        checks.due(38, "for other houses and persons", 2, x.deal());
        checks.due(38, "another house", 0, x.granted(1, 2));
        checks.due(38, "another person", 2, x.granted(2, 1));
        checks.refused(38, "none fits", x, Checks.NOTHING, () -> x.holder(1));
        checks.due(38, "two were struck off, two served", 1, x.enlist(1, 1, 5));
        checks.due(38, "struck off as none is given", 0, x.deal());
        checks.due(38, "it is empty", 1, x.enlist(3, 3, 40));
        CuratorAquarum y = new CuratorAquarum();
        y.node('c', 5);
        y.nozzle(0, 'h', 10, 0);
        y.grant(1, 1, 0);
        y.enlist(1, 1, 5);
        checks.due(38, "no nozzle is free", 0, y.deal());
        checks.due(38, "so the list is not gone through", 2, y.enlist(2, 2, 5));
    }

    private static void strikeOffBeforeTheTakerAlone() {
        CuratorAquarum x = new CuratorAquarum();
        x.node('c', 5);
        x.nozzle(0, 'h', 10, 0);
        x.nozzle(0, 'h', 10, 0);
        x.grant(1, 1, 0);
        x.enlist(2, 2, 10);
        x.enlist(1, 1, 5);
        checks.due(38, "the first takes it", 1, x.deal());
        checks.due(38, "behind him none is struck off", 2, x.enlist(3, 3, 5));
        x.giveBack(1, 1);
        checks.due(38, "he has it no more", 1, x.deal());
        checks.due(38, "and is the first", 1, x.holder(0));
    }

    /** One who waits twice for one house takes the first that fits, and is struck off then. */
    private static void listWithinADeal() {
        CuratorAquarum x = city();
        x.enlist(1, 1, 9);
        x.enlist(1, 1, 5);
        x.enlist(2, 2, 5);
        checks.due(38, "two", 2, x.deal());
        checks.due(38, "the first", 1, x.holder(0));
        checks.due(38, "the third", 2, x.holder(1));
        checks.due(38, "it is empty", 1, x.enlist(3, 3, 40));
    }
}
