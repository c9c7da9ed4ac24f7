/** A small city in which each call has something to do: two months went by, and rain is told for the third. */
final class Town {
    static final int NODES = 8;
    static final int STRETCHES = 5;
    static final int NOZZLES = 7;

    private Town() {
    }

    static CuratorAquarum built() {
        CuratorAquarum x = new CuratorAquarum();
        x.spring(900, 1000, 100, 7);
        x.node('t', 500);
        x.node('c', 100);
        x.spring(400, 50, 10, 2);
        x.node('t', 500);
        x.node('c', 90);
        x.node('t', 80);
        x.spring(178, 5, 0, 0);
        x.channel(0, 1, 20, 10);
        x.siphon(1, 2, 10, 10, 50, 10);
        x.channel(3, 2, 5, 5);
        x.siphon(0, 4, 5, 2, 99, 1);
        x.channel(4, 5, 10, 3);
        x.hole(0, 30);
        x.hole(0, 20);
        x.hole(1, 500);
        nozzles(x);
        x.care(70);
        x.seed(12345);
        x.month();
        x.month();
        x.rain(40);
        return x;
    }

    /** Persons 1 and 2 hold nozzles 2 and 4 for house 1, person 3 is dead, and three wait. */
    private static void nozzles(CuratorAquarum x) {
        x.nozzle(2, 'b', 10, 0);
        x.nozzle(2, 'a', 20, 10);
        x.nozzle(2, 'h', 10, 0);
        x.nozzle(2, 'h', 15, 5);
        x.nozzle(2, 'h', 20, 0);
        x.nozzle(5, 'h', 8, 0);
        x.nozzle(5, 'a', 40, 90);
        x.order(2, 3);
        x.widen(1, 30);
        x.widen(3, 16);
        x.grant(1, 1, 2);
        x.grant(2, 1, 4);
        x.die(3);
        x.enlist(1, 1, 5);
        x.enlist(4, 2, 16);
        x.enlist(5, 0, 5);
    }
}
