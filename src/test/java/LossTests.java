/** Promises 1 to 5: a new object, LOSSES and windows. */
final class LossTests {
    private LossTests() {
    }

    static void addTo(Suite s) {
        s.test("promise 1: a new object has nothing", LossTests::newObject);
        s.test("promise 1: objects are apart from each other", LossTests::objectsApart);
        s.test("promise 2: loss tells LOSSES by number", LossTests::losses);
        s.test("promise 2: loss takes the edges and refuses what is beyond", LossTests::lossEdges);
        s.test("promise 2: loss refuses the 41st", LossTests::mostLosses);
        s.test("promise 3: creep changes a LOSS everywhere", LossTests::creeps);
        s.test("promise 3: creep refuses", LossTests::creepRefuses);
        s.test("promise 4: choose takes windows of the whole clause", LossTests::clauses);
        s.test("promise 4: choose refuses ranges", LossTests::chooseRanges);
        s.test("promise 4: choose refuses HOURS in common", LossTests::inCommon);
        s.test("promise 4: choose refuses the ninth", LossTests::mostOccurrences);
        s.test("promise 5: unchoose takes the last one back", LossTests::unchooses);
    }

    static void newObject(Suite t) {
        Stormbond x = new Stormbond();
        for (int what = 0; what < 8; what++) {
            t.due("sum(" + what + ")", 0, x.sum(what));
        }
        for (int peril = 0; peril < 3; peril++) {
            t.due("best", 0, x.best(peril));
            t.due("bestAnew", 0, x.bestAnew(peril));
        }
        for (int r = 0; r < 6; r++) {
            for (int what = 0; what < 3; what++) {
                t.due("reinsurer", 0, x.reinsurer(r, what));
            }
        }
        t.due("rounds", 1, x.rounds());
        t.due("basis", 0, x.basis());
        t.due("hour", 0, x.hour());
        t.due("quota", 0, x.quota(0));
        t.refusesIndex(x, "creep", () -> x.creep(0, 0));
        t.refusesIndex(x, "part", () -> x.part(0, 0, 0));
        t.refusesIndex(x, "reading", () -> x.reading(0, 0, 0, 0));
        t.refusesIndex(x, "ofBond", () -> x.ofBond(0, 0));
        t.refusesIndex(x, "occurrence", () -> x.occurrence(0, 0));
        t.refusesState(x, "unchoose", () -> x.unchoose());
        x.layer(0, 1, 1, 0, 0, 0);
        for (int model = 0; model < 3; model++) {
            int m = model;
            t.refusesState(x, "price", () -> x.price(0, m));
        }
        t.due("dearest", -1, x.dearest(0, false));
    }

    static void objectsApart(Suite t) {
        Stormbond x = new Stormbond();
        Stormbond y = new Stormbond();
        x.loss(0, 0, 7);
        x.pass(5);
        t.due("x.sum(0)", 7, x.sum(0));
        t.due("y.sum(0)", 0, y.sum(0));
        t.due("y.hour()", 0, y.hour());
        t.due("y.loss", 0, y.loss(1, 1, 1));
    }

    static void losses(Suite t) {
        Stormbond x = new Stormbond();
        t.due("first", 0, x.loss(Stormbond.WIND, 10, 5));
        t.due("second", 1, x.loss(Stormbond.QUAKE, 2199, 99999));
        t.due("third", 2, x.loss(Stormbond.FLOOD, 0, 0));
        t.due("sum(0)", 100004, x.sum(0));
        t.due("sum(1)", 100004, x.sum(1));
        t.due("sum(6)", 100004, x.sum(6));
    }

    static void lossEdges(Suite t) {
        Stormbond x = new Stormbond();
        x.loss(0, 0, 0);
        x.loss(2, 2199, 99999);
        int[][] wrong = {{-1, 0, 0}, {3, 0, 0}, {0, -1, 0}, {0, 2200, 0}, {0, 0, -1}, {0, 0, 100000},
            {Integer.MIN_VALUE, 0, 0}, {0, Integer.MAX_VALUE, 0}, {0, 0, Integer.MIN_VALUE}};
        for (int[] a : wrong) {
            t.refusesArgument(x, "loss(" + a[0] + ", " + a[1] + ", " + a[2] + ")", () -> x.loss(a[0], a[1], a[2]));
        }
        t.due("the next number", 2, x.loss(1, 1, 1));
    }

    static void mostLosses(Suite t) {
        Stormbond x = new Stormbond();
        for (int i = 0; i < 40; i++) {
            t.due("loss", i, x.loss(i % 3, 50 * i, 99999));
        }
        t.due("sum(0)", 40L * 99999, x.sum(0));
        t.refusesState(x, "the 41st", () -> x.loss(0, 0, 0));
        t.refusesArgument(x, "the 41st, wrong too", () -> x.loss(0, 0, 100000));
        t.due("creep of the 40th", 99999, x.creep(39, 0));
        t.due("sum(0)", 39L * 99999, x.sum(0));
    }

    static void creeps(Suite t) {
        Stormbond x = new Stormbond();
        x.loss(0, 10, 100);
        x.loss(0, 11, 200);
        x.layer(150, 1000, 100, 0, 0, 0);
        x.choose(0, 10, 11);
        t.due("ground", 300, x.occurrence(0, 0));
        t.due("creep", 200, x.creep(1, 99999));
        t.due("ground", 100099, x.occurrence(0, 0));
        t.due("hit", 1000, x.hit(0, 0, 0));
        t.due("best", 1000, x.best(0));
        t.due("creep", 99999, x.creep(1, 0));
        t.due("creep again", 0, x.creep(1, 60));
        t.due("hit", 10, x.hit(0, 0, 0));
        t.due("the other LOSS", 100, x.creep(0, 100));
    }

    static void creepRefuses(Suite t) {
        Stormbond x = new Stormbond();
        t.refusesIndex(x, "none yet", () -> x.creep(0, 5));
        x.loss(0, 10, 100);
        t.refusesIndex(x, "creep(1, 5)", () -> x.creep(1, 5));
        t.refusesIndex(x, "creep(-1, 5)", () -> x.creep(-1, 5));
        t.refusesIndex(x, "creep(1, -1)", () -> x.creep(1, -1));
        t.refusesIndex(x, "creep(max, -1)", () -> x.creep(Integer.MAX_VALUE, -1));
        t.refusesArgument(x, "creep(0, -1)", () -> x.creep(0, -1));
        t.refusesArgument(x, "creep(0, 100000)", () -> x.creep(0, 100000));
        t.due("creep", 100, x.creep(0, 99999));
    }

    static void clauses(Suite t) {
        Stormbond x = new Stormbond();
        t.due("wind of 72", 0, x.choose(0, 0, 71));
        t.due("flood of 168", 1, x.choose(1, 0, 167));
        t.due("quake of 168", 2, x.choose(2, 2032, 2199));
        t.due("one HOUR", 3, x.choose(0, 2199, 2199));
        t.refusesArgument(x, "wind of 73", () -> x.choose(0, 100, 172));
        t.refusesArgument(x, "flood of 169", () -> x.choose(1, 500, 668));
        t.refusesArgument(x, "quake of 169", () -> x.choose(2, 500, 668));
        t.due("wind again", 4, x.choose(0, 100, 171));
        x.pass(500);
        t.due("behind its time", 5, x.choose(1, 168, 200));
    }

    static void chooseRanges(Suite t) {
        Stormbond x = new Stormbond();
        int[][] wrong = {{-1, 0, 0}, {3, 0, 0}, {0, -1, 0}, {0, -1, -1}, {0, 2199, 2200}, {0, 2200, 2200}, {0, 5, 4},
            {0, Integer.MIN_VALUE, Integer.MAX_VALUE}, {0, Integer.MAX_VALUE, Integer.MIN_VALUE}, {1, 2, -5}};
        for (int[] a : wrong) {
            t.refusesArgument(x, "choose(" + a[0] + ", " + a[1] + ", " + a[2] + ")",
                () -> x.choose(a[0], a[1], a[2]));
        }
        t.due("the first number", 0, x.choose(0, 4, 4));
    }

    static void inCommon(Suite t) {
        Stormbond x = new Stormbond();
        x.choose(0, 100, 110);
        int[][] wrong = {{100, 110}, {90, 100}, {110, 120}, {105, 106}, {95, 115}, {110, 110}, {100, 100}};
        for (int[] a : wrong) {
            t.refusesState(x, "choose(0, " + a[0] + ", " + a[1] + ")", () -> x.choose(0, a[0], a[1]));
        }
        t.refusesArgument(x, "in common, and too long", () -> x.choose(0, 100, 172));
        t.due("another PERIL", 1, x.choose(1, 100, 110));
        t.due("right behind", 2, x.choose(0, 111, 120));
        t.due("right ahead", 3, x.choose(0, 90, 99));
    }

    static void mostOccurrences(Suite t) {
        Stormbond x = new Stormbond();
        for (int i = 0; i < 8; i++) {
            t.due("choose", i, x.choose(i % 3, 10 * i, 10 * i + 9));
        }
        t.refusesState(x, "the ninth", () -> x.choose(0, 2000, 2000));
        t.refusesArgument(x, "the ninth, wrong too", () -> x.choose(0, 2000, 2200));
        t.due("unchoose", 7, x.unchoose());
        t.due("choose", 7, x.choose(0, 2000, 2000));
    }

    static void unchooses(Suite t) {
        Stormbond x = new Stormbond();
        t.refusesState(x, "none", () -> x.unchoose());
        x.loss(0, 5, 10);
        x.loss(0, 6, 20);
        x.choose(0, 6, 6);
        x.choose(0, 5, 5);
        t.due("sum(1)", 0, x.sum(1));
        t.due("unchoose", 1, x.unchoose());
        t.due("sum(1)", 10, x.sum(1));
        t.due("the first one stays", 20, x.occurrence(0, 0));
        t.refusesIndex(x, "the second one", () -> x.occurrence(1, 0));
        t.due("its HOURS are free", 1, x.choose(0, 4, 5));
        t.due("unchoose", 1, x.unchoose());
        t.due("unchoose", 0, x.unchoose());
        t.refusesState(x, "none any more", () -> x.unchoose());
        t.due("sum(1)", 30, x.sum(1));
    }
}
