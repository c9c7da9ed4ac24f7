import java.util.function.Function;

/** Long runs of calls, right and wrong ones, asked of the class and of PlainCity alike. */
public final class ManyRunsTest {
    private static final int RUNS = 3000;
    /** What an object answers behind so many calls is free. */
    private static final int CALLS = 512;
    private static final int[] ODD_NUMBERS = {Integer.MIN_VALUE, -1, 0, 1, 100, 1000, Integer.MAX_VALUE};
    private static final char[] ODD_SIGNS = {(char) 0, 'x', 'B', (char) 233, (char) 65535};

    private static long state = 20261119L;
    private static CuratorAquarum city;
    private static PlainCity plain;
    private static int calls = 0;
    private static int wrong = 0;
    private static long answers = 0;
    private static final int[] thrown = new int[60];
    private static final int[] answered = new int[60];

    private interface Both {
        Object of(CuratorAquarum x);
    }

    public static void main(String[] args) {
        for (int run = 0; run < RUNS && wrong == 0; run++) {
            city = new CuratorAquarum();
            plain = new PlainCity();
            calls = 0;
            for (int step = 0; calls < CALLS && wrong == 0; step++) {
                step(run, step, kindOfCall(step));
            }
        }
        for (int kind = 1; kind <= 51; kind++) {
            if (answered[kind] == 0) {
                wrong++;
                System.out.println("call " + kind + " never answered");
            }
        }
        System.out.println(answers + " answers compared, " + wrong + " wrong");
        if (wrong != 0) {
            System.exit(1);
        }
    }

    private static int random(int below) {
        state = state * 6364136223846793005L + 1442695040888963407L;
        return (int) ((state >>> 33) % below);
    }

    private static int kindOfCall(int call) {
        if (call < 60 && random(3) > 0) {
            return new int[] {1, 2, 2, 3, 3, 3, 4, 24, 24, 24, 30, 36}[random(12)];
        }
        return random(4) == 0 ? 12 : 1 + random(51);
    }

    /** Mostly a number of the range or just beyond it, at times another one. */
    private static int number(int least, int most) {
        int kind = random(60);
        if (kind == 0) {
            return ODD_NUMBERS[random(ODD_NUMBERS.length)];
        }
        if (kind == 1) {
            return random(2) == 0 ? least - 1 : most + 1;
        }
        if (kind < 8) {
            return random(2) == 0 ? least : most;
        }
        return least + random(most - least + 1);
    }

    private static char sign(String signs) {
        return random(60) == 0 ? ODD_SIGNS[random(ODD_SIGNS.length)] : signs.charAt(random(signs.length()));
    }

    private static void step(int run, int call, int kind) {
        int[] n = {number(0, 15), number(0, 999), number(0, 19), number(0, 23), number(0, 29), number(0, 29)};
        boolean is = random(2) == 0;
        switch (kind) {
            case 1 -> {
                int flow = number(0, random(2) == 0 ? 5000 : 300);
                int swing = number(0, Math.max(0, Math.min(flow, 5000)));
                int hardness = number(0, 9);
                ask(run, call, kind, x -> x.spring(n[1], flow, swing, hardness),
                        x -> x.spring(n[1], flow, swing, hardness));
            }
            case 2 -> {
                char c = sign("tc");
                ask(run, call, kind, x -> x.node(c, n[1]), x -> x.node(c, n[1]));
            }
            case 3, 4 -> stretch(run, call, kind);
            case 10 -> {
                int size = number(1, random(2) == 0 ? 500 : 40);
                ask(run, call, kind, x -> x.hole(n[2], size), x -> x.hole(n[2], size));
            }
            case 11 -> {
                int rain = number(0, 99);
                ask(run, call, kind, x -> x.rain(rain), x -> x.rain(rain));
            }
            case 23 -> {
                int order = number(0, 5);
                ask(run, call, kind, x -> x.order(n[0], order), x -> x.order(n[0], order));
            }
            case 24 -> {
                char c = sign("bahh");
                int bore = number(5, 40);
                int height = number(0, 90);
                ask(run, call, kind, x -> x.nozzle(n[0], c, bore, height), x -> x.nozzle(n[0], c, bore, height));
            }
            case 26 -> {
                int bore = number(5, 60);
                ask(run, call, kind, x -> x.widen(n[3], bore), x -> x.widen(n[3], bore));
            }
            case 29 -> {
                char c = sign("dc");
                int quarters = number(1, 999);
                ask(run, call, kind, x -> x.measure(c, quarters), x -> x.measure(c, quarters));
            }
            case 31, 33 -> person(run, call, kind, random(6), random(6));
            case 36 -> {
                int bore = number(5, 40);
                int who = random(3) == 0 ? n[4] : random(6);
                ask(run, call, kind, x -> x.enlist(who, n[5], bore), x -> x.enlist(who, n[5], bore));
            }
            case 38 -> {
                int care = number(0, 100);
                ask(run, call, kind, x -> x.care(care), x -> x.care(care));
            }
            case 39 -> {
                int z = number(1, 2147483646);
                ask(run, call, kind, x -> x.seed(z), x -> x.seed(z));
            }
            case 45 -> {
                char c = sign("fe");
                int leak = number(0, 3);
                ask(run, call, kind, x -> x.line(n[2], c, leak), x -> x.line(n[2], c, leak));
            }
            case 46 -> {
                char c = sign("fe");
                int more = number(0, 9999);
                ask(run, call, kind, x -> x.purse(c, more), x -> x.purse(c, more));
            }
            default -> plainStep(run, call, kind, n, is);
        }
    }

    private static void stretch(int run, int call, int kind) {
        int from = number(0, 15);
        int to = number(0, 15);
        int length = number(1, random(2) == 0 ? 99 : 9);
        int width = number(1, 20);
        int depth = number(0, 99);
        int lead = number(1, 20);
        if (kind == 3) {
            ask(run, call, kind, x -> x.channel(from, to, length, width), x -> x.channel(from, to, length, width));
        } else {
            ask(run, call, kind, x -> x.siphon(from, to, length, width, depth, lead),
                    x -> x.siphon(from, to, length, width, depth, lead));
        }
    }

    private static void person(int run, int call, int kind, int who, int house) {
        if (kind == 31) {
            ask(run, call, kind, x -> x.granted(who, house), x -> x.granted(who, house));
        } else {
            ask(run, call, kind, x -> x.giveBack(who, house), x -> x.giveBack(who, house));
        }
    }

    private static void plainStep(int run, int call, int kind, int[] n, boolean is) {
        char chamber = sign("bah");
        char gang = sign("fe");
        char account = sign("iutlow");
        switch (kind) {
            case 5 -> ask(run, call, kind, x -> x.capacity(n[2]), x -> x.capacity(n[2]));
            case 6 -> ask(run, call, kind, x -> x.crust(n[2]), x -> x.crust(n[2]));
            case 7 -> ask(run, call, kind, x -> x.isBroken(n[2]), x -> x.isBroken(n[2]));
            case 8 -> ask(run, call, kind, x -> x.shut(n[2], is), x -> x.shut(n[2], is));
            case 9 -> ask(run, call, kind, x -> x.cut(n[2]), x -> x.cut(n[2]));
            case 12 -> ask(run, call, kind, x -> x.month(), x -> x.month());
            case 13 -> ask(run, call, kind, x -> x.months(), x -> x.months());
            case 14 -> ask(run, call, kind, x -> x.water(n[0]), x -> x.water(n[0]));
            case 15 -> ask(run, call, kind, x -> x.hardness(n[0]), x -> x.hardness(n[0]));
            case 16 -> ask(run, call, kind, x -> x.cloud(n[0]), x -> x.cloud(n[0]));
            case 17 -> ask(run, call, kind, x -> x.overflow(n[0]), x -> x.overflow(n[0]));
            case 18 -> ask(run, call, kind, x -> x.level(n[0], chamber), x -> x.level(n[0], chamber));
            case 19 -> ask(run, call, kind, x -> x.waste(n[0]), x -> x.waste(n[0]));
            case 20 -> ask(run, call, kind, x -> x.gauge(n[2], is), x -> x.gauge(n[2], is));
            case 21 -> ask(run, call, kind, x -> x.missing(n[2]), x -> x.missing(n[2]));
            case 22 -> ask(run, call, kind, x -> x.suspect(), x -> x.suspect());
            case 25 -> ask(run, call, kind, x -> x.close(n[3], is), x -> x.close(n[3], is));
            case 27 -> ask(run, call, kind, x -> x.given(n[3]), x -> x.given(n[3]));
            case 28 -> ask(run, call, kind, x -> x.stolen(n[3]), x -> x.stolen(n[3]));
            case 30 -> ask(run, call, kind, x -> x.grant(n[4], n[5], n[3]), x -> x.grant(n[4], n[5], n[3]));
            case 32 -> ask(run, call, kind, x -> x.holder(n[3]), x -> x.holder(n[3]));
            case 34 -> ask(run, call, kind, x -> x.die(n[4]), x -> x.die(n[4]));
            case 35 -> ask(run, call, kind, x -> x.sell(n[5]), x -> x.sell(n[5]));
            case 37 -> ask(run, call, kind, x -> x.deal(), x -> x.deal());
            case 40 -> ask(run, call, kind, x -> x.roundAlong(n[2]), x -> x.roundAlong(n[2]));
            case 41 -> ask(run, call, kind, x -> x.roundOf(n[0]), x -> x.roundOf(n[0]));
            case 42 -> ask(run, call, kind, x -> x.fines(is), x -> x.fines(is));
            case 43 -> ask(run, call, kind, x -> x.scrape(n[2], gang), x -> x.scrape(n[2], gang));
            case 44 -> ask(run, call, kind, x -> x.mend(n[2], gang), x -> x.mend(n[2], gang));
            case 47 -> ask(run, call, kind, x -> x.account(account), x -> x.account(account));
            case 48 -> ask(run, call, kind, x -> x.checksum(), x -> x.checksum());
            case 49 -> ask(run, call, kind, x -> x.heldShare(), x -> x.heldShare());
            case 50 -> ask(run, call, kind, x -> x.meanLength(), x -> x.meanLength());
            default -> ask(run, call, kind, x -> x.isSound(), x -> x.isSound());
        }
    }

    private static void ask(int run, int call, int kind, Both ofClass, Function<PlainCity, Object> ofPlain) {
        Object got = Checks.outcome(() -> ofClass.of(city));
        Object due = Checks.outcome(() -> ofPlain.apply(plain));
        if (got instanceof String) {
            thrown[kind]++;
        } else {
            answered[kind]++;
        }
        calls++;
        compare(run, call, kind, due, got);
        if (call % 4 == 0 && calls + 2 <= CALLS) {
            calls += 2;
            compare(run, call, kind, plain.checksum(), city.checksum());
            compare(run, call, kind, true, city.isSound());
        }
    }

    private static void compare(int run, int call, int kind, Object due, Object got) {
        answers++;
        if (!due.equals(got)) {
            wrong++;
            System.out.println("run " + run + ", call " + call + " of kind " + kind + ": " + got + ", due is " + due);
        }
    }
}
