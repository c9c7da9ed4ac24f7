/** Promises 48 to 52: accounts, the checksum, the held share, the mean length and soundness. */
public final class SumsTest {
    private static final Checks checks = new Checks();

    public static void main(String[] args) {
        accounts();
        checksum();
        heldShare();
        meanLength();
        sound();
        checks.end();
    }

    /** Of 1000 a month 100 run into a siphon and a hole, 100 into another one and a castle. */
    private static CuratorAquarum city() {
        CuratorAquarum x = new CuratorAquarum();
        x.spring(500, 1000, 100, 9);
        x.node('t', 400);
        x.node('c', 300);
        x.siphon(0, 1, 50, 2, 5, 1);
        x.channel(0, 2, 10, 10);
        x.hole(0, 30);
        x.nozzle(2, 'b', 10, 0);
        x.nozzle(2, 'h', 20, 0);
        return x;
    }

    private static void accounts() {
        CuratorAquarum x = city();
        String kinds = "iutlow";
        for (int i = 0; i < kinds.length(); i++) {
            checks.due(48, "before any", 0, x.account(kinds.charAt(i)));
        }
        x.widen(0, 20);
        x.grant(1, 1, 1);
        x.month();
        // The siphon takes 100, leaks 10, loses 30; the channel takes 440 and leaks 8; the tank overflows.
        int[] due = {1060, 108, 30 + 324, 18, 520 + 60, 0};
        for (int i = 0; i < kinds.length(); i++) {
            checks.due(48, "account " + kinds.charAt(i), due[i], x.account(kinds.charAt(i)));
        }
        x.shut(0, true);
        x.shut(1, true);
        x.month();
        checks.due(48, "i of the last month alone", 1080, x.account('i'));
        checks.due(48, "o of the last month alone", 1080, x.account('o'));
        checks.due(48, "u of the last month alone", 0, x.account('u'));
        checks.due(48, "t of the last month alone", 0, x.account('t'));
        checks.due(48, "l of the last month alone", 0, x.account('l'));
        x.shut(1, false);
        x.close(0, true);
        x.month();
        // The channel takes 440 and leaks 8; the nozzle of houses takes the rest at a level of 54.
        checks.due(48, "u of houses alone", 432, x.account('u'));
        checks.due(48, "w without any", 0, x.account('w'));
        checks.due(48, "l", 8, x.account('l'));
        x.close(1, true);
        x.month();
        checks.due(48, "w with all shut", 432, x.account('w'));
        x.month();
        checks.due(48, "w of the last month alone", 432, x.account('w'));
        checks.due(48, "u with all shut", 0, x.account('u'));
        for (char wrong : new char[] {'I', 'x', (char) 0, (char) 65535}) {
            checks.refused(48, "kind", x, Checks.ARGUMENT, () -> x.account(wrong));
        }
    }

    private static void checksum() {
        CuratorAquarum x = new CuratorAquarum();
        checks.due(49, "at first", (7L * 31 + 2000) * 31 + 1, x.checksum());
        CuratorAquarum y = city();
        y.grant(4, 5, 1);
        y.widen(0, 33);
        y.month();
        y.seed(99);
        y.purse('e', 11);
        long due = 7L;
        long[] parts = {1060, 60, 432, 60, 0, 432, y.crust(1), 33, -1, 20, 4, 2011, 99};
        for (long part : parts) {
            due = due * 31 + part;
        }
        checks.due(49, "over all", due, y.checksum());
    }

    private static void heldShare() {
        CuratorAquarum x = new CuratorAquarum();
        x.node('c', 5);
        x.nozzle(0, 'b', 10, 0);
        checks.refused(50, "none of houses", x, Checks.NOTHING, x::heldShare);
        for (int i = 0; i < 3; i++) {
            x.nozzle(0, 'h', 10, 0);
        }
        checks.due(50, "none held", 0.0f, x.heldShare());
        x.grant(0, 0, 1);
        checks.due(50, "one of three", 1.0f / 3.0f, x.heldShare());
        x.grant(1, 0, 2);
        x.grant(2, 0, 3);
        checks.due(50, "all", 1.0f, x.heldShare());
        x.die(1);
        checks.due(50, "two of three", 2.0f / 3.0f, x.heldShare());
        CuratorAquarum y = new CuratorAquarum();
        y.node('c', 5);
        y.nozzle(0, 'h', 10, 0);
        checks.due(50, "the one", 0.0f, y.heldShare());
        y.grant(0, 0, 0);
        checks.due(50, "the one", 1.0f, y.heldShare());
    }

    private static void meanLength() {
        CuratorAquarum x = new CuratorAquarum();
        checks.refused(51, "none", x, Checks.NOTHING, x::meanLength);
        x.spring(900, 1, 1, 1);
        x.node('t', 5);
        x.channel(0, 1, 1, 1);
        checks.due(51, "one", 1.0, x.meanLength());
        x.siphon(0, 1, 99, 1, 1, 1);
        checks.due(51, "two", 50.0, x.meanLength());
        x.siphon(0, 1, 10, 1, 1, 1);
        checks.due(51, "three", 110.0 / 3.0, x.meanLength());
        x.cut(1);
        x.shut(2, true);
        checks.due(51, "broken and shut ones count", 110.0 / 3.0, x.meanLength());
    }

    private static void sound() {
        CuratorAquarum x = city();
        checks.due(52, "at first", true, x.isSound());
        x.enlist(3, 3, 20);
        x.enlist(4, 3, 20);
        x.deal();
        x.month();
        checks.due(52, "behind a month", true, x.isSound());
        x.widen(0, 60);
        x.shut(1, true);
        checks.due(52, "by the last month", true, x.isSound());
        x.die(3);
        x.die(4);
        x.month();
        checks.due(52, "behind deaths", true, x.isSound());
    }
}
