/** Promises 17 to 21: what is due and kept, and the SPIRAL. */
final class TowerTests {
    private TowerTests() {
    }

    static void addTo(Suite s) {
        s.test("promise 17: occurrence", TowerTests::occurrences);
        s.test("promise 17: the order of settling", TowerTests::order);
        s.test("promise 17: occurrence refuses", TowerTests::occurrenceRefuses);
        s.test("promise 18: hit, what is left and reinstated", TowerTests::hits);
        s.test("promise 18: hit by order, not by number", TowerTests::hitsByOrder);
        s.test("promise 18: hit at its edges", TowerTests::hitEdges);
        s.test("promise 18: what is paid for reinstating is rounded once", TowerTests::charges);
        s.test("promise 18: the greatest numbers", TowerTests::greatest);
        s.test("promise 18: hit refuses", TowerTests::hitRefuses);
        s.test("promise 19: sum", TowerTests::sums);
        s.test("promise 19: what the insurer keeps can be below 0", TowerTests::keptBelowNought);
        s.test("promise 19: sum refuses", TowerTests::sumRefuses);
        s.test("promise 20: reinsurer bears, rounded for each OCCURRENCE", TowerTests::bears);
        s.test("promise 20: reinsurer bears nothing of what was taken back", TowerTests::bearsTakenBack);
        s.test("promise 20: reinsurer bears of eight OCCURRENCES and five LAYERS", TowerTests::bearsMost);
        s.test("promise 20: reinsurer at the end of the SPIRAL", TowerTests::spiral);
        s.test("promise 20: NET behind the 40th round", TowerTests::endlessSpiral);
        s.test("promise 20: reinsurer refuses", TowerTests::reinsurerRefuses);
        s.test("promise 21: rounds", TowerTests::rounds);
    }

    static void occurrences(Suite t) {
        Stormbond x = new Stormbond();
        x.loss(1, 10, 333);
        x.loss(1, 177, 444);
        x.loss(1, 178, 5000);
        x.loss(1, 9, 6000);
        x.loss(0, 50, 7000);
        x.quota(10);
        x.layer(100, 400, 50, 1, 100, 100);
        x.layer(500, 1000, 33, 0, 100, 100);
        x.choose(1, 10, 177);
        t.due("GROUND", 777, x.occurrence(0, 0));
        t.due("QUOTA", 77, x.occurrence(0, 1));
        t.due("NET", 700, x.occurrence(0, 2));
        t.due("paid", 200 + 66, x.occurrence(0, 3));
        t.due("reinstating", 100, x.occurrence(0, 4));
        t.due("place", 0, x.occurrence(0, 5));
        x.choose(0, 0, 49);
        for (int what = 0; what < 5; what++) {
            t.due("an empty one", 0, x.occurrence(1, what));
        }
    }

    static void order(Suite t) {
        Stormbond x = new Stormbond();
        x.choose(2, 100, 100);
        x.choose(0, 100, 150);
        x.choose(1, 100, 101);
        x.choose(0, 99, 99);
        x.choose(2, 0, 99);
        x.choose(1, 2199, 2199);
        int[] want = {4, 2, 3, 1, 0, 5};
        for (int i = 0; i < want.length; i++) {
            t.due("place of " + i, want[i], x.occurrence(i, 5));
        }
        x.unchoose();
        x.unchoose();
        t.due("place of 3", 0, x.occurrence(3, 5));
        t.due("place of 0", 3, x.occurrence(0, 5));
    }

    static void occurrenceRefuses(Suite t) {
        Stormbond x = new Stormbond();
        t.refusesIndex(x, "none", () -> x.occurrence(0, 0));
        x.choose(0, 0, 0);
        t.refusesIndex(x, "occurrence(1, 0)", () -> x.occurrence(1, 0));
        t.refusesIndex(x, "occurrence(-1, 9)", () -> x.occurrence(-1, 9));
        t.refusesArgument(x, "occurrence(0, 6)", () -> x.occurrence(0, 6));
        t.refusesArgument(x, "occurrence(0, -1)", () -> x.occurrence(0, -1));
    }

    static void hits(Suite t) {
        Stormbond x = new Stormbond();
        x.layer(100, 1000, 80, 1, 500, 50);
        for (int i = 0; i < 4; i++) {
            x.loss(0, 100 * i, 800);
            x.choose(0, 100 * i, 100 * i);
        }
        int[][] want = {{700, 560, 700, 175, 1300}, {700, 560, 300, 75, 600}, {600, 480, 0, 0, 0}, {0, 0, 0, 0, 0}};
        for (int o = 0; o < 4; o++) {
            for (int what = 0; what < 5; what++) {
                t.due("hit(0, " + o + ", " + what + ")", want[o][what], x.hit(0, o, what));
            }
        }
        t.due("paid", 480, x.occurrence(2, 3));
        t.due("sum(5)", 250, x.sum(5));
    }

    static void hitsByOrder(Suite t) {
        Stormbond x = new Stormbond();
        x.layer(0, 1000, 100, 0, 0, 0);
        x.loss(0, 500, 700);
        x.loss(2, 400, 600);
        x.loss(0, 400, 200);
        x.choose(0, 500, 500);
        x.choose(2, 400, 401);
        t.due("the first to be settled", 600, x.hit(0, 1, 0));
        t.due("what it leaves", 400, x.hit(0, 1, 4));
        t.due("the second", 400, x.hit(0, 0, 0));
        t.due("what it leaves", 0, x.hit(0, 0, 4));
        x.choose(0, 400, 400);
        t.due("the first PERIL", 200, x.hit(0, 2, 0));
        t.due("then QUAKE", 600, x.hit(0, 1, 0));
        t.due("then the last", 200, x.hit(0, 0, 0));
        x.unchoose();
        t.due("taken back", 400, x.hit(0, 0, 0));
    }

    static void hitEdges(Suite t) {
        Stormbond x = new Stormbond();
        x.layer(100, 50, 99, 3, 10, 100);
        x.loss(0, 0, 100);
        x.choose(0, 0, 0);
        t.due("at the FLOOR", 0, x.hit(0, 0, 0));
        t.due("left", 200, x.hit(0, 0, 4));
        x.creep(0, 99);
        t.due("below the FLOOR", 0, x.hit(0, 0, 0));
        x.creep(0, 101);
        t.due("above by 1", 1, x.hit(0, 0, 0));
        t.due("which pays nothing", 0, x.hit(0, 0, 1));
        x.creep(0, 150);
        t.due("the DEPTH", 50, x.hit(0, 0, 0));
        t.due("pays", 49, x.hit(0, 0, 1));
        x.creep(0, 151);
        t.due("at most the DEPTH", 50, x.hit(0, 0, 0));
        t.due("left", 150, x.hit(0, 0, 4));
    }

    static void charges(Suite t) {
        Stormbond x = new Stormbond();
        x.layer(0, 7, 1, 1, 99, 99);
        x.loss(0, 0, 5);
        x.choose(0, 0, 0);
        t.due("99 * 5 * 99 / 700", 70, x.hit(0, 0, 3));
        t.due("by the OCCURRENCE", 70, x.occurrence(0, 4));
    }

    static void greatest(Suite t) {
        Stormbond x = new Stormbond();
        x.layer(0, 999999, 100, 3, 99999, 150);
        for (int i = 0; i < 40; i++) {
            x.loss(0, i, 99999);
        }
        x.choose(0, 0, 39);
        t.due("GROUND", 3999960, x.occurrence(0, 0));
        t.due("HIT", 999999, x.hit(0, 0, 0));
        t.due("reinstated", 999999, x.hit(0, 0, 2));
        t.due("paid for that", 149998, x.hit(0, 0, 3));
        t.due("left", 2999997, x.hit(0, 0, 4));
        x.quota(90);
        t.due("QUOTA", 3599964, x.occurrence(0, 1));
        t.due("NET", 399996, x.occurrence(0, 2));
        t.due("paid for 399996", 59998, x.hit(0, 0, 3));
    }

    static void hitRefuses(Suite t) {
        Stormbond x = new Stormbond();
        x.layer(0, 10, 10, 0, 0, 0);
        t.refusesIndex(x, "no OCCURRENCE", () -> x.hit(0, 0, 0));
        x.choose(0, 0, 0);
        t.refusesIndex(x, "hit(1, 0, 0)", () -> x.hit(1, 0, 0));
        t.refusesIndex(x, "hit(-1, 0, 0)", () -> x.hit(-1, 0, 0));
        t.refusesIndex(x, "hit(0, 1, 5)", () -> x.hit(0, 1, 5));
        t.refusesIndex(x, "hit(0, -1, 0)", () -> x.hit(0, -1, 0));
        t.refusesArgument(x, "hit(0, 0, 5)", () -> x.hit(0, 0, 5));
        t.refusesArgument(x, "hit(0, 0, -1)", () -> x.hit(0, 0, -1));
        Stormbond y = new Stormbond();
        y.choose(0, 0, 0);
        t.refusesIndex(y, "no LAYER", () -> y.hit(0, 0, 0));
    }

    static void sums(Suite t) {
        Stormbond x = new Stormbond();
        x.loss(0, 10, 1000);
        x.loss(0, 90, 500);
        x.loss(1, 10, 777);
        x.quota(20);
        x.layer(100, 300, 90, 1, 60, 100);
        x.layer(200, 600, 100, 0, 60, 100);
        x.choose(0, 10, 81);
        x.choose(1, 0, 100);
        x.part(0, 1, 33);
        x.part(0, 0, 33);
        x.part(1, 2, 100);
        // NETS 800 and 622; the LAYERS are HIT by 300 and 600, then by 300 and 0.
        int quota = 200 + 155;
        int paid = 270 + 600 + 270;
        int borne = quota + 4 * 89 + 600;
        int[] want = {2277, 500, quota, paid, paid - 600 - 4 * 89, 60, 2277 - borne + 60, borne};
        for (int what = 0; what < 8; what++) {
            t.due("sum(" + what + ")", want[what], x.sum(what));
        }
    }

    static void keptBelowNought(Suite t) {
        Stormbond x = new Stormbond();
        x.loss(0, 10, 1000);
        x.choose(0, 10, 10);
        for (int layer = 0; layer < 5; layer++) {
            x.layer(0, 1000, 100, 1, 100, 10);
            x.part(layer, layer, 100);
        }
        t.due("sum(3)", 5000, x.sum(3));
        t.due("sum(4)", 0, x.sum(4));
        t.due("sum(5)", 50, x.sum(5));
        t.due("sum(6)", 1000 - 5000 + 50, x.sum(6));
        t.due("sum(7)", 5000, x.sum(7));
        t.due("basis", 3950, x.basis());
    }

    static void sumRefuses(Suite t) {
        Stormbond x = new Stormbond();
        for (int what : new int[] {-1, 8, Integer.MIN_VALUE, Integer.MAX_VALUE}) {
            t.refusesArgument(x, "sum(" + what + ")", () -> x.sum(what));
        }
    }

    static void bears(Suite t) {
        Stormbond x = new Stormbond();
        x.layer(0, 99, 100, 1, 0, 0);
        x.layer(0, 99, 100, 1, 0, 0);
        x.loss(0, 0, 99);
        x.loss(0, 1, 99);
        x.choose(0, 0, 0);
        x.choose(0, 1, 1);
        x.part(0, 1, 50);
        x.part(1, 1, 50);
        t.due("four times 49", 196, x.reinsurer(1, 0));
        t.due("the rest is kept", 200, x.sum(4));
        x.quota(50);
        t.due("QUOTA is borne by 0", 98, x.reinsurer(0, 0));
        t.due("four times 25", 100, x.reinsurer(1, 0));
        x.part(0, 0, 10);
        t.due("and PARTS of it", 98 + 10, x.reinsurer(0, 0));
    }

    static void bearsTakenBack(Suite t) {
        Stormbond x = new Stormbond();
        x.layer(0, 100, 100, 3, 10, 100);
        x.part(0, 4, 50);
        x.loss(0, 0, 60);
        x.loss(0, 1, 80);
        x.choose(0, 0, 0);
        x.choose(0, 1, 1);
        t.due("of both", 70, x.reinsurer(4, 0));
        t.due("sum(5)", 14, x.sum(5));
        x.unchoose();
        t.due("of the first", 30, x.reinsurer(4, 0));
        t.due("sum(3)", 60, x.sum(3));
        t.due("sum(4)", 30, x.sum(4));
        t.due("sum(5)", 6, x.sum(5));
        t.due("sum(7)", 30, x.sum(7));
    }

    static void bearsMost(Suite t) {
        Stormbond x = new Stormbond();
        for (int layer = 0; layer < 5; layer++) {
            x.layer(0, 10, 100, 3, 0, 0);
            x.part(layer, layer + 1, 100);
        }
        for (int o = 0; o < 8; o++) {
            x.loss(0, o, o + 1);
            x.choose(0, o, o);
        }
        for (int layer = 0; layer < 5; layer++) {
            t.due("borne", 36, x.reinsurer(layer + 1, 0));
            t.due("left", 4, x.hit(layer, 7, 4));
        }
        t.due("sum(3)", 180, x.sum(3));
    }

    static Stormbond bearing(int direct) {
        Stormbond x = new Stormbond();
        x.layer(0, 99999, 100, 0, 0, 0);
        x.loss(0, 0, direct);
        x.choose(0, 0, 0);
        x.part(0, 1, 100);
        return x;
    }

    static void spiral(Suite t) {
        Stormbond x = bearing(1000);
        x.retro(1, 2, 300, 500);
        x.retro(2, 3, 100, 999999);
        x.retro(3, 1, 0, 50);
        // 1: 1050 of which 500 go on to 2, of which 400 go on to 3, of which 50 come back.
        t.due("1 has", 1050, x.reinsurer(1, 1));
        t.due("2 has", 500, x.reinsurer(2, 1));
        t.due("3 has", 400, x.reinsurer(3, 1));
        t.due("1 NET", 550, x.reinsurer(1, 2));
        t.due("2 NET", 100, x.reinsurer(2, 2));
        t.due("3 NET", 350, x.reinsurer(3, 2));
        t.due("1 directly", 1000, x.reinsurer(1, 0));
        t.due("2 directly", 0, x.reinsurer(2, 0));
        x.retro(0, 2, 0, 999999);
        x.retro(4, 2, 0, 999999);
        t.due("2 has still", 500, x.reinsurer(2, 1));
    }

    static void endlessSpiral(Suite t) {
        Stormbond x = bearing(1000);
        x.retro(1, 2, 0, 999999);
        x.retro(2, 1, 0, 999999);
        // Each second round brings 1000 more: 40 rounds, 20 times.
        t.due("rounds", 40, x.rounds());
        t.due("1 has", 21000, x.reinsurer(1, 1));
        t.due("2 has", 20000, x.reinsurer(2, 1));
        t.due("1 NET", 0, x.reinsurer(1, 2));
        x.retro(2, 1, 0, 5000);
        t.due("2 has", 6000, x.reinsurer(2, 1));
        t.due("2 NET", 1000, x.reinsurer(2, 2));
    }

    static void reinsurerRefuses(Suite t) {
        Stormbond x = new Stormbond();
        t.refusesIndex(x, "reinsurer(6, 0)", () -> x.reinsurer(6, 0));
        t.refusesIndex(x, "reinsurer(-1, 3)", () -> x.reinsurer(-1, 3));
        t.refusesArgument(x, "reinsurer(5, 3)", () -> x.reinsurer(5, 3));
        t.refusesArgument(x, "reinsurer(0, -1)", () -> x.reinsurer(0, -1));
    }

    static void rounds(Suite t) {
        Stormbond x = bearing(1000);
        t.due("nothing is passed on", 1, x.rounds());
        x.retro(1, 2, 1000, 5);
        t.due("at the FLOOR", 1, x.rounds());
        x.retro(1, 2, 999, 5);
        t.due("one goes on", 2, x.rounds());
        x.retro(2, 3, 0, 5);
        t.due("and on", 3, x.rounds());
        x.retro(3, 4, 0, 5);
        x.retro(4, 5, 0, 5);
        x.retro(5, 0, 0, 5);
        t.due("through all", 6, x.rounds());
        Stormbond y = bearing(18);
        y.retro(1, 2, 0, 999999);
        y.retro(2, 1, 0, 342);
        t.due("a change in the 39th, none in the 40th", 40, y.rounds());
        t.due("it came to rest", 342 + 18, y.reinsurer(1, 1));
        t.due("it came to rest", 360, y.reinsurer(2, 1));
        y.retro(2, 1, 0, 341);
        t.due("as it does with less", 40, y.rounds());
        y.retro(2, 1, 0, 324);
        t.due("two rounds less", 38, y.rounds());
    }
}
