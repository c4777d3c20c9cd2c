/** Promises 16 and 26 to 28: SCENARIOS and what they make of a LAYER. */
final class PriceTests {
    private PriceTests() {
    }

    static void addTo(Suite s) {
        s.test("promise 16: scenario", PriceTests::scenarios);
        s.test("promise 16: scenario refuses", PriceTests::scenarioRefuses);
        s.test("promise 26: price", PriceTests::price);
        s.test("promise 26: price of the greatest numbers", PriceTests::greatestPrice);
        s.test("promise 26: price refuses", PriceTests::priceRefuses);
        s.test("promise 27: tail", PriceTests::tail);
        s.test("promise 27: tail of a MODEL with 12 SCENARIOS", PriceTests::fullTail);
        s.test("promise 27: tail refuses", PriceTests::tailRefuses);
        s.test("promise 28: dearest", PriceTests::dearest);
        s.test("promise 28: dearest tells the bits of a double", PriceTests::bits);
        s.test("promise 28: dearest refuses", PriceTests::dearestRefuses);
    }

    static void scenarios(Suite t) {
        Stormbond x = new Stormbond();
        x.layer(0, 999999, 100, 0, 0, 0);
        for (int i = 1; i <= 12; i++) {
            t.due("scenario", i, x.scenario(1, i % 2 == 0 ? 1 : 99, i % 2 == 0 ? 0 : 999999));
        }
        t.refusesState(x, "the 13th", () -> x.scenario(1, 1, 1));
        t.refusesArgument(x, "the 13th, wrong too", () -> x.scenario(1, 0, 1));
        t.due("another MODEL", 1, x.scenario(2, 1, 1));
        t.due("another MODEL", 1, x.scenario(0, 1, 5));
        t.due("price of 0", 5000, x.price(0, 0));
        t.due("price of 1", 1000L * 99 * 999999 / 100, x.price(0, 1));
        t.due("price of 2", 1000, x.price(0, 2));
    }

    static void scenarioRefuses(Suite t) {
        Stormbond x = new Stormbond();
        x.layer(0, 999999, 100, 0, 0, 0);
        t.refusesIndex(x, "scenario(3, 0, 0)", () -> x.scenario(3, 0, 0));
        t.refusesIndex(x, "scenario(-1, 1, 1)", () -> x.scenario(-1, 1, 1));
        t.refusesArgument(x, "weight 0", () -> x.scenario(0, 0, 1));
        t.refusesArgument(x, "weight 100", () -> x.scenario(0, 100, 1));
        t.refusesArgument(x, "units -1", () -> x.scenario(0, 1, -1));
        t.refusesArgument(x, "units 1000000", () -> x.scenario(0, 1, 1000000));
        t.due("the first one", 1, x.scenario(0, 99, 999999));
    }

    static void price(Suite t) {
        Stormbond x = new Stormbond();
        x.layer(100, 300, 50, 0, 0, 0);
        x.scenario(0, 3, 100);
        x.scenario(0, 2, 301);
        x.scenario(0, 2, 5000);
        t.due("1000 * (2 * 100 + 2 * 150) / 7", 500000 / 7, x.price(0, 0));
        x.loss(0, 0, 400);
        x.choose(0, 0, 0);
        t.due("as if nothing was settled ahead", 500000 / 7, x.price(0, 0));
        x.quota(50);
        t.due("QUOTA is taken off ahead", 1000 * (2 * 25 + 2 * 150) / 7, x.price(0, 0));
        x.scenario(1, 1, 201);
        t.due("a NET of 101", 0, x.price(0, 1));
        x.scenario(1, 1, 203);
        t.due("a NET of 102", 500, x.price(0, 1));
    }

    static void greatestPrice(Suite t) {
        Stormbond x = new Stormbond();
        x.layer(0, 999999, 100, 0, 0, 0);
        for (int i = 0; i < 12; i++) {
            x.scenario(2, 99, 999999);
        }
        t.due("price", 999999000L, x.price(0, 2));
        t.due("tail", 999999, x.tail(0, 2, 99));
        t.due("dearest", Double.doubleToLongBits(999999.0), x.dearest(0, true));
    }

    static void priceRefuses(Suite t) {
        Stormbond x = new Stormbond();
        t.refusesIndex(x, "no LAYER", () -> x.price(0, 0));
        x.layer(0, 10, 10, 0, 0, 0);
        t.refusesState(x, "no SCENARIOS", () -> x.price(0, 0));
        t.refusesIndex(x, "price(1, 0)", () -> x.price(1, 0));
        t.refusesIndex(x, "price(-1, 0)", () -> x.price(-1, 0));
        t.refusesIndex(x, "price(0, 3)", () -> x.price(0, 3));
        t.refusesIndex(x, "price(0, -1)", () -> x.price(0, -1));
        x.scenario(1, 1, 100);
        t.refusesState(x, "no SCENARIOS of 0", () -> x.price(0, 0));
        t.due("price of 1", 1000, x.price(0, 1));
    }

    static void tail(Suite t) {
        Stormbond x = new Stormbond();
        x.layer(0, 999999, 100, 0, 0, 0);
        x.scenario(0, 10, 500);
        x.scenario(0, 20, 100);
        x.scenario(0, 30, 300);
        x.scenario(0, 40, 100);
        int[][] want = {{0, 500}, {9, 500}, {10, 300}, {39, 300}, {40, 100}, {99, 100}};
        for (int[] w : want) {
            t.due("tail of " + w[0], w[1], x.tail(0, 0, w[0]));
        }
        x.scenario(1, 1, 0);
        x.scenario(1, 99, 7);
        t.due("just 99 of 100", 0, x.tail(0, 1, 99));
        t.due("not 98", 7, x.tail(0, 1, 98));
        x.scenario(2, 5, 0);
        t.due("nothing is paid", 0, x.tail(0, 2, 0));
        x.quota(50);
        t.due("QUOTA is taken off ahead", 250, x.tail(0, 0, 0));
    }

    static void fullTail(Suite t) {
        Stormbond x = new Stormbond();
        x.layer(0, 999999, 100, 0, 0, 0);
        for (int model = 0; model < 3; model++) {
            for (int i = 0; i < 12; i++) {
                x.scenario(model, 1, 1000 * model + 10 * (11 - i));
            }
        }
        for (int model = 0; model < 3; model++) {
            t.due("none above", 1000 * model + 110, x.tail(0, model, 0));
            t.due("one above", 1000 * model + 100, x.tail(0, model, 9));
            t.due("eleven above", 1000 * model, x.tail(0, model, 92));
            t.due("price", 1000 * (1000 * model + 55), x.price(0, model));
        }
    }

    static void tailRefuses(Suite t) {
        Stormbond x = new Stormbond();
        t.refusesIndex(x, "no LAYER", () -> x.tail(0, 0, 100));
        x.layer(0, 10, 10, 0, 0, 0);
        t.refusesIndex(x, "tail(1, 0, 100)", () -> x.tail(1, 0, 100));
        t.refusesIndex(x, "tail(-1, 0, 0)", () -> x.tail(-1, 0, 0));
        t.refusesIndex(x, "tail(0, 3, 100)", () -> x.tail(0, 3, 100));
        t.refusesIndex(x, "tail(0, -1, 0)", () -> x.tail(0, -1, 0));
        t.refusesArgument(x, "tail(0, 0, 100), no SCENARIOS", () -> x.tail(0, 0, 100));
        t.refusesArgument(x, "tail(0, 0, -1)", () -> x.tail(0, 0, -1));
        t.refusesState(x, "no SCENARIOS", () -> x.tail(0, 0, 99));
        x.scenario(0, 1, 1);
        t.refusesArgument(x, "tail(0, 0, 100)", () -> x.tail(0, 0, 100));
        t.due("tail", 0, x.tail(0, 0, 99));
    }

    static void dearest(Suite t) {
        Stormbond x = new Stormbond();
        x.layer(0, 1000, 100, 0, 0, 0);
        x.layer(999999, 1, 100, 0, 0, 0);
        t.due("no SCENARIOS", -1, x.dearest(0, false));
        t.due("no SCENARIOS, bits", -1, x.dearest(0, true));
        x.scenario(2, 3, 100);
        t.due("the only one", 2, x.dearest(0, false));
        t.due("which pays nothing", 2, x.dearest(1, false));
        t.due("bits of 0", 0, x.dearest(1, true));
        x.scenario(1, 5, 100);
        t.due("the lowest of both", 1, x.dearest(0, false));
        t.due("bits of 100", Double.doubleToLongBits(100.0), x.dearest(0, true));
        x.scenario(2, 1, 101);
        t.due("a quarter more", 2, x.dearest(0, false));
        t.due("bits of 100.25", Double.doubleToLongBits(100.25), x.dearest(0, true));
        x.scenario(0, 99, 5000);
        t.due("at most the DEPTH", 0, x.dearest(0, false));
        t.due("bits of 1000", Double.doubleToLongBits(1000.0), x.dearest(0, true));
        t.due("the lowest of three", 0, x.dearest(1, false));
    }

    static void bits(Suite t) {
        for (int weight = 1; weight <= 1090; weight++) {
            for (int units : new int[] {1, 2, 3, 777, 65536, 999999}) {
                Stormbond x = new Stormbond();
                x.layer(0, 999999, 100, 0, 0, 0);
                int rest = weight - 1;
                while (rest > 0) {
                    x.scenario(0, Math.min(rest, 99), 0);
                    rest -= 99;
                }
                x.scenario(0, 1, units);
                double want = (double) (long) units / (double) weight;
                t.due(units + " / " + weight, Double.doubleToLongBits(want), x.dearest(0, true));
            }
        }
    }

    static void dearestRefuses(Suite t) {
        Stormbond x = new Stormbond();
        t.refusesIndex(x, "no LAYER", () -> x.dearest(0, false));
        x.layer(0, 1000, 100, 0, 0, 0);
        t.refusesIndex(x, "dearest(1, true)", () -> x.dearest(1, true));
        t.refusesIndex(x, "dearest(-1, false)", () -> x.dearest(-1, false));
    }
}
