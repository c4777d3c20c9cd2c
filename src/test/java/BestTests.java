/** Promises 22 and 23: the best windows. */
final class BestTests {
    private BestTests() {
    }

    static void addTo(Suite s) {
        s.test("promise 22: best parts LOSSES to use a LAYER more often", BestTests::apart);
        s.test("promise 22: best puts LOSSES together above a FLOOR", BestTests::together);
        s.test("promise 22: best keeps to the clause of the PERIL", BestTests::clauses);
        s.test("promise 22: best takes off the QUOTA", BestTests::quota);
        s.test("promise 22: best of 40 LOSSES", BestTests::greatest);
        s.test("promise 22: best does not mind what was chosen", BestTests::chosen);
        s.test("promise 22: best refuses", BestTests::bestRefuses);
        s.test("promise 23: bestAnew refuses eight HOURS", BestTests::eightHours);
        s.test("promise 23: bestAnew refuses a PERIL", BestTests::anewRefuses);
    }

    static void both(Suite t, String what, int want, Stormbond x, int peril) {
        t.due("best: " + what, want, x.best(peril));
        t.due("bestAnew: " + what, want, x.bestAnew(peril));
    }

    static void apart(Suite t) {
        Stormbond x = new Stormbond();
        x.layer(0, 100, 100, 0, 0, 0);
        x.loss(0, 10, 100);
        x.loss(0, 11, 100);
        x.loss(0, 12, 60);
        x.loss(0, 12, 60);
        both(t, "each by itself, one HOUR together", 300, x, 0);
        x.loss(1, 12, 60);
        both(t, "another PERIL", 300, x, 0);
        both(t, "another PERIL", 60, x, 1);
        both(t, "a PERIL without LOSSES", 0, x, 2);
    }

    static void together(Suite t) {
        Stormbond x = new Stormbond();
        x.layer(150, 100, 100, 0, 0, 0);
        for (int i = 0; i < 5; i++) {
            x.loss(0, 90 - 10 * i, 100);
        }
        both(t, "two and three, all in the clause", 100 + 50, x, 0);
        x.layer(0, 10, 50, 0, 0, 0);
        both(t, "with a LAYER of another kind", 150 + 5 + 5, x, 0);
        x.loss(0, 200, 0);
        both(t, "a LOSS of 0 units", 160, x, 0);
    }

    static void clauses(Suite t) {
        for (int peril = 0; peril < 3; peril++) {
            int clause = peril == 0 ? 72 : 168;
            Stormbond x = new Stormbond();
            x.layer(100, 100, 100, 0, 0, 0);
            x.loss(peril, 1000, 100);
            x.loss(peril, 1000 + clause, 100);
            both(t, "one HOUR too far", 0, x, peril);
            x.loss(peril, 1000 + clause - 1, 50);
            both(t, "the last HOUR of the clause", 50, x, peril);
            x.creep(0, 0);
            both(t, "from the last one on", 50, x, peril);
        }
    }

    static void quota(Suite t) {
        Stormbond x = new Stormbond();
        x.layer(50, 100, 100, 0, 0, 0);
        x.loss(2, 0, 101);
        x.loss(2, 100, 99);
        both(t, "without", 51 + 49, x, 2);
        x.quota(50);
        both(t, "with it", 50, x, 2);
    }

    static void greatest(Suite t) {
        Stormbond x = new Stormbond();
        for (int layer = 0; layer < 5; layer++) {
            x.layer(0, 999999, 100, 0, 0, 0);
        }
        for (int i = 0; i < 40; i++) {
            x.loss(1, (i * 37 % 40) * 50, 99999);
        }
        t.due("best", 5L * 40 * 99999, x.best(1));
        t.refusesState(x, "bestAnew", () -> x.bestAnew(1));
    }

    static void chosen(Suite t) {
        Stormbond x = new Stormbond();
        x.layer(0, 100, 100, 0, 0, 0);
        x.loss(0, 5, 100);
        x.loss(0, 6, 100);
        x.choose(0, 0, 6);
        x.loss(2, 5, 5000);
        x.choose(2, 0, 6);
        both(t, "as if nothing was chosen", 200, x, 0);
    }

    static void bestRefuses(Suite t) {
        Stormbond x = new Stormbond();
        t.refusesArgument(x, "best(3)", () -> x.best(3));
        t.refusesArgument(x, "best(-1)", () -> x.best(-1));
    }

    static void eightHours(Suite t) {
        Stormbond x = new Stormbond();
        x.layer(0, 10, 100, 0, 0, 0);
        for (int i = 0; i < 14; i++) {
            x.loss(0, 5 + i % 7, 10);
        }
        both(t, "14 LOSSES at seven HOURS", 70, x, 0);
        x.loss(1, 500, 0);
        both(t, "an eighth HOUR of another PERIL", 70, x, 0);
        x.loss(0, 500, 0);
        t.due("best", 70, x.best(0));
        t.refusesState(x, "0 units at the eighth HOUR", () -> x.bestAnew(0));
        t.due("another PERIL", 0, x.bestAnew(1));
    }

    static void anewRefuses(Suite t) {
        Stormbond x = new Stormbond();
        for (int i = 0; i < 9; i++) {
            x.loss(2, i, 1);
        }
        t.refusesArgument(x, "bestAnew(3)", () -> x.bestAnew(3));
        t.refusesArgument(x, "bestAnew(-1)", () -> x.bestAnew(-1));
        t.refusesState(x, "bestAnew(2)", () -> x.bestAnew(2));
    }
}
