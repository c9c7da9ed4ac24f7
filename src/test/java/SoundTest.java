import java.lang.reflect.Field;
import java.util.ArrayList;

/** Promise 52: no run of calls makes a city unsound, so its parts are broken here by force, one by one. */
public final class SoundTest {
    private static final Checks checks = new Checks();

    public static void main(String[] args) throws ReflectiveOperationException {
        accounts();
        levels();
        grants();
        grantOfAnotherChamber();
        theDead();
        checks.end();
    }

    private static Object part(Object whole, String name) throws ReflectiveOperationException {
        return field(whole, name).get(whole);
    }

    private static Field field(Object whole, String name) throws ReflectiveOperationException {
        Field field = whole.getClass().getDeclaredField(name);
        field.setAccessible(true);
        return field;
    }

    private static Object member(Object whole, String list, int place) throws ReflectiveOperationException {
        return ((ArrayList<?>) part(whole, list)).get(place);
    }

    private static void set(Object whole, String name, int number) throws ReflectiveOperationException {
        field(whole, name).setInt(whole, number);
    }

    private static void accounts() throws ReflectiveOperationException {
        for (String name : new String[] {"sprung", "used", "taken", "leaked", "overflowed", "wasted"}) {
            for (int more = -1; more <= 1; more++) {
                CuratorAquarum x = Town.built();
                Object accounts = part(x, "accounts");
                set(accounts, name, (Integer) part(accounts, name) + more);
                checks.due(52, name + " and " + more, more == 0, x.isSound());
            }
        }
    }

    private static void levels() throws ReflectiveOperationException {
        for (int castle : new int[] {2, 5}) {
            for (int chamber = 0; chamber < 3; chamber++) {
                for (int level : new int[] {Integer.MIN_VALUE, -1, 0, 100, 101, Integer.MAX_VALUE}) {
                    CuratorAquarum x = Town.built();
                    int[] levels = (int[]) part(member(x, "nodes", castle), "levels");
                    levels[chamber] = level;
                    checks.due(52, "level " + level, level >= 0 && level <= 100, x.isSound());
                }
            }
        }
        CuratorAquarum first = new CuratorAquarum();
        first.node('c', 5);
        ((int[]) part(member(first, "nodes", 0), "levels"))[0] = 101;
        checks.due(52, "level of the first node", false, first.isSound());
    }

    private static void hold(CuratorAquarum x, int nozzle, int person, int house) throws ReflectiveOperationException {
        Object found = member(x, "nozzles", nozzle);
        set(found, "owner", person);
        set(found, "house", house);
    }

    /** A grant has its own nozzle: none stands for two of them. */
    private static void grants() throws ReflectiveOperationException {
        for (int person = 1; person <= 2; person++) {
            for (int house = 1; house <= 2; house++) {
                CuratorAquarum x = Town.built();
                hold(x, 5, person, house);
                checks.due(52, "person " + person + " for house " + house, house == 2, x.isSound());
            }
        }
    }

    private static void grantOfAnotherChamber() throws ReflectiveOperationException {
        for (int nozzle : new int[] {0, 1, 3, 6}) {
            CuratorAquarum x = Town.built();
            hold(x, nozzle, 9, 9);
            checks.due(52, "nozzle " + nozzle, nozzle == 3, x.isSound());
        }
    }

    private static void theDead() throws ReflectiveOperationException {
        for (int person = 0; person < 30; person++) {
            CuratorAquarum x = Town.built();
            ((boolean[]) part(x, "dead"))[person] = true;
            boolean isGone = person != 1 && person != 2 && person != 4 && person != 5;
            checks.due(52, "person " + person + " dead", isGone, x.isSound());
        }
        CuratorAquarum first = new CuratorAquarum();
        first.enlist(0, 0, 5);
        checks.due(52, "the first who waits", true, first.isSound());
        ((boolean[]) part(first, "dead"))[0] = true;
        checks.due(52, "is dead", false, first.isSound());
    }
}
