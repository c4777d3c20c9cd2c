import java.util.Random;

/** Runs of 512 calls, the same each time, whose answers are those of the Oracle. */
final class RandomRuns {
    private interface Answer {
        long get();
    }

    private static final int[] WILD = {Integer.MIN_VALUE, -1000000, -2, -1, 6, 7, 8, 100, 2200, 65536, 100000,
        1000000, Integer.MAX_VALUE - 1, Integer.MAX_VALUE};

    private final Random random;
    private final int hours;
    private final int units;
    private final int wildness;
    private Stormbond x = new Stormbond();
    private Oracle y = new Oracle();
    private String call;
    private int made;

    private RandomRuns(long seed) {
        random = new Random(seed);
        hours = new int[] {2200, 400, 60}[random.nextInt(3)];
        units = new int[] {100000, 1000, 100, 20}[random.nextInt(4)];
        wildness = new int[] {10, 50, 100000}[random.nextInt(3)];
    }

    static void addTo(Suite s) {
        for (int block = 0; block < 12; block++) {
            int from = block * 20;
            s.test("runs at random " + from + " to " + (from + 19), t -> {
                for (int seed = from; seed < from + 20; seed++) {
                    new RandomRuns(seed).run(t, seed);
                }
            });
        }
    }

    private void run(Suite t, int seed) {
        // A step makes no more than two calls.
        while (made < Run.MOST_CALLS - 1) {
            int kind = made < 100 ? random.nextInt(18) : random.nextInt(28);
            boolean isMine = step(t, kind, "run " + seed + ", call " + made + ": ");
            if (!isMine) {
                return;
            }
        }
    }

    /** A number from least to most, or at times an edge or one beyond them. */
    private int any(int least, int most) {
        if (random.nextInt(wildness) == 0) {
            return WILD[random.nextInt(WILD.length)];
        }
        switch (random.nextInt(60)) {
            case 0:
                return least;
            case 1:
                return most;
            case 2:
                return wildness > 1000 ? least : least - 1;
            case 3:
                return wildness > 1000 ? most : most + 1;
            default:
                return least + random.nextInt(most - least + 1);
        }
    }

    private int anyUnits(int most) {
        return random.nextInt(8) == 0 ? any(0, most) : any(0, Math.min(most, units));
    }

    private int anyHour() {
        return random.nextInt(20) == 0 ? any(0, 2199) : any(0, hours - 1);
    }

    private boolean same(Suite t, String name, Answer mine, Answer theirs, int... arguments) {
        String want = answerOf(theirs);
        String got = answerOf(mine);
        made++;
        if (want.equals(got)) {
            return true;
        }
        t.fault(call + name + java.util.Arrays.toString(arguments) + " answered " + got + ", due is " + want);
        return false;
    }

    private static String answerOf(Answer answer) {
        try {
            return Long.toString(answer.get());
        } catch (RuntimeException e) {
            return Calls.nameOfThrown(e);
        }
    }

    private boolean step(Suite t, int kind, String where) {
        call = where;
        if (kind < 9) {
            return tellRisks(t, kind);
        }
        return kind < 18 ? tellBonds(t, kind) : ask(t, kind);
    }

    private boolean tellRisks(Suite t, int kind) {
        switch (kind) {
            case 0: {
                int a = any(0, 2), b = anyHour(), c = anyUnits(99999);
                return same(t, "loss", () -> x.loss(a, b, c), () -> y.loss(a, b, c), a, b, c);
            }
            case 1: {
                int a = any(0, 20), b = anyUnits(99999);
                return same(t, "creep", () -> x.creep(a, b), () -> y.creep(a, b), a, b);
            }
            case 2:
            case 3: {
                int a = any(0, 2), b = anyHour(), c = b + (random.nextInt(9) == 0 ? any(0, 168) : any(0, 71));
                return same(t, "choose", () -> x.choose(a, b, c), () -> y.choose(a, b, c), a, b, c);
            }
            case 4:
                return random.nextInt(5) > 0 || same(t, "unchoose", () -> x.unchoose(), () -> y.unchoose());
            case 5: {
                int a = any(0, random.nextInt(4) == 0 ? 90 : 20);
                return same(t, "quota", () -> x.quota(a), () -> y.quota(a), a);
            }
            case 6: {
                int a = anyUnits(999999), b = anyUnits(999999) + 1, c = any(1, 100), d = any(0, 3);
                int e = anyUnits(99999), f = any(0, 150);
                return same(t, "layer", () -> x.layer(a, b, c, d, e, f), () -> y.layer(a, b, c, d, e, f),
                    a, b, c, d, e, f);
            }
            case 7: {
                int a = any(0, 4), b = any(0, 5), c = any(0, random.nextInt(3) == 0 ? 100 : 30);
                return same(t, "part", () -> x.part(a, b, c), () -> y.part(a, b, c), a, b, c);
            }
            default: {
                int a = any(0, 5), b = any(0, 5), c = anyUnits(999999), d = anyUnits(999999);
                return same(t, "retro", () -> x.retro(a, b, c / 4, d), () -> y.retro(a, b, c / 4, d), a, b, c / 4, d);
            }
        }
    }

    private boolean tellBonds(Suite t, int kind) {
        switch (kind) {
            case 9: {
                int a = any(0, 15);
                return same(t, "station", () -> x.station(a), () -> y.station(a), a);
            }
            case 10:
            case 11: {
                int a = any(0, 5), b = anyHour(), c = any(0, 2), d = any(0, 9);
                return same(t, "reading", () -> x.reading(a, b, c, d), () -> y.reading(a, b, c, d), a, b, c, d);
            }
            case 12: {
                int a = any(0, 5), b = anyHour();
                return random.nextInt(4) > 0 || same(t, "fails", () -> x.fails(a, b), () -> y.fails(a, b), a, b);
            }
            case 13:
                return tellBond(t);
            case 14: {
                int a = any(0, 4), b = any(1, 500);
                return random.nextInt(3) > 0 || same(t, "extend", () -> x.extend(a, b), () -> y.extend(a, b), a, b);
            }
            case 15: {
                int a = any(1, random.nextInt(5) == 0 ? 500 : Math.max(2, hours / 40));
                return random.nextInt(3) > 0 || same(t, "pass", () -> x.pass(a), () -> y.pass(a), a);
            }
            default: {
                int a = any(0, 2), b = any(1, random.nextBoolean() ? 99 : 3), c = anyUnits(999999);
                return same(t, "scenario", () -> x.scenario(a, b, c), () -> y.scenario(a, b, c), a, b, c);
            }
        }
    }

    private boolean tellBond(Suite t) {
        int a = any(1, 999999), b = any(0, 2), d = anyHour(), e = d + any(0, hours / 2), f = any(1, 9), g = any(1, 100);
        int c = random.nextBoolean() ? 1 << random.nextInt(17) : any(1, 65535);
        return same(t, "bond", () -> x.bond(a, b, c, d, e, f, g), () -> y.bond(a, b, c, d, e, f, g),
            a, b, c, d, e, f, g);
    }

    private boolean ask(Suite t, int kind) {
        int a = any(0, 4), b = any(0, 7), c = any(0, 5), d = any(0, 2), e = any(0, 99), f = any(0, 7);
        switch (kind) {
            case 18:
                return same(t, "occurrence", () -> x.occurrence(b, c), () -> y.occurrence(b, c), b, c);
            case 19:
                return same(t, "hit", () -> x.hit(a, b, f), () -> y.hit(a, b, f), a, b, f);
            case 20:
                return same(t, "sum", () -> x.sum(f), () -> y.sum(f), f);
            case 21:
                return same(t, "reinsurer", () -> x.reinsurer(c, d), () -> y.reinsurer(c, d), c, d);
            case 22:
                return same(t, "rounds", () -> x.rounds(), () -> y.rounds())
                    && same(t, "basis", () -> x.basis(), () -> y.basis());
            case 23:
                return random.nextInt(3) > 0 || same(t, "best", () -> x.best(d), () -> y.best(d), d)
                    && same(t, "bestAnew", () -> x.bestAnew(d), () -> y.bestAnew(d), d);
            case 24:
                return same(t, "ofBond", () -> x.ofBond(a, c), () -> y.ofBond(a, c), a, c);
            case 25:
                return same(t, "price", () -> x.price(a, d), () -> y.price(a, d), a, d);
            case 26:
                return same(t, "tail", () -> x.tail(a, d, e), () -> y.tail(a, d, e), a, d, e);
            default:
                return same(t, "dearest", () -> x.dearest(a, e > 40), () -> y.dearest(a, e > 40), a)
                    && same(t, "hour", () -> x.hour(), () -> y.hour());
        }
    }
}
