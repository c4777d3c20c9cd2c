/** Promises 16 and 26 to 28: SCENARIOS and what they make of a LAYER. */
final class PriceTests {
    private PriceTests() {
    }

    static void addTo(Suite s) {
        addScenarios(s);
        addPrices(s);
        addTails(s);
        addDearest(s);
        s.test("promise 28: the bits of quotients of all sums of weights", PriceTests::bits);
    }

    private static String bits(double quotient) {
        return Long.toString(Double.doubleToLongBits(quotient));
    }

    private static void addScenarios(Suite s) {
        s.run("promise 16: returns how many the MODEL has then, each for itself", """
            scenario(0, 1, 1) -> 1; scenario(2, 1, 1) -> 1; scenario(0, 1, 1) -> 2; scenario(1, 1, 1) -> 1
            scenario(2, 0, 1) -> argument; scenario(2, 1, 1) -> 2
            """);
        s.run("promise 16, `weight`: 1 to 99, `units`: 0 to 999999: they count as they are", """
            layer(0, 999999, 100, 0, 0, 0); scenario(0, 1, 0); scenario(0, 99, 999999); price(0, 0) -> 989999010
            tail(0, 0, 98) -> 999999; tail(0, 0, 99) -> 0; scenario(1, 99, 0); scenario(1, 1, 999999); price(0, 1) -> 9999990
            tail(0, 1, 0) -> 999999; tail(0, 1, 1) -> 0
            """);
    }

    private static void addPrices(Suite s) {
        s.run("Terms: 1000 times the sum of weights times what it pays, divided by the sum of weights, rounded once", """
            layer(100, 300, 50, 0, 0, 0); scenario(0, 3, 100); scenario(0, 2, 301); scenario(0, 2, 5000)
            price(0, 0) -> 71428; scenario(1, 3, 102); scenario(1, 1, 0); price(0, 1) -> 750; scenario(2, 2, 102)
            scenario(2, 1, 100); price(0, 2) -> 666
            """);
        s.run("Terms: a LAYER pays what it would for one OCCURRENCE, if nothing was settled ahead", """
            layer(0, 100, 100, 0, 10, 100); scenario(0, 1, 80); price(0, 0) -> 80000; loss(0, 0, 400); choose(0, 0, 0)
            hit(0, 0, 4) -> 0; price(0, 0) -> 80000; tail(0, 0, 0) -> 80; dearest(0, false) -> 0; scenario(0, 1, 80)
            scenario(0, 1, 80); price(0, 0) -> 80000
            """);
        s.run("Terms: whose GROUND is these units: the QUOTA is taken off, FLOOR and DEPTH at their edges", """
            layer(100, 50, 100, 0, 0, 0); scenario(0, 1, 100); scenario(1, 1, 101); scenario(2, 1, 150); price(0, 0) -> 0
            price(0, 1) -> 1000; price(0, 2) -> 50000; quota(50); price(0, 1) -> 0; price(0, 2) -> 0; scenario(0, 1, 200)
            scenario(0, 1, 201); price(0, 0) -> 333; scenario(0, 1, 301); price(0, 0) -> 12750; tail(0, 0, 0) -> 50
            """);
        s.run("promise 26: the greatest PRICE, of 12 SCENARIOS of the greatest weight and units",
            "layer(0, 999999, 100, 0, 0, 0);" + Worlds.times(12, "scenario(2, 99, 999999)")
                + "price(0, 2) -> 999999000; tail(0, 2, 0) -> 999999; tail(0, 2, 99) -> 999999; dearest(0, false) -> 2; dearest(0, true) -> "
                + bits(999999.0));
        s.run("promise 26: the MODEL has no SCENARIOS, though others have", """
            layer(0, 10, 100, 0, 0, 0); scenario(1, 1, 10); price(0, 0) -> state; price(0, 2) -> state
            price(0, 1) -> 10000
            """);
        s.run("promises 26 to 28: there is no such LAYER behind the last one", """
            scenario(0, 1, 10); price(0, 0) -> index; tail(0, 0, 0) -> index; dearest(0, false) -> index
            dearest(0, true) -> index; layer(0, 10, 100, 0, 0, 0); price(0, 0) -> 10000; price(1, 0) -> index
            tail(1, 0, 0) -> index; dearest(1, false) -> index; dearest(1, true) -> index; dearest(-1, false) -> index
            dearest(MIN, true) -> index; dearest(MAX, false) -> index
            """);
    }

    private static void addTails(Suite s) {
        s.run("Terms: the weights of SCENARIOS by which it pays more, times 100, are at most the percent times all weights", """
            layer(0, 999999, 100, 0, 0, 0); scenario(0, 10, 500); scenario(0, 20, 100); scenario(0, 30, 300)
            scenario(0, 40, 100); tail(0, 0, 0) -> 500; tail(0, 0, 9) -> 500; tail(0, 0, 10) -> 300; tail(0, 0, 39) -> 300
            tail(0, 0, 40) -> 100; tail(0, 0, 99) -> 100
            """);
        s.run("promise 27, `percent`: 0 to 99: just 99 of 100, and just 1 of 100", """
            layer(0, 999999, 100, 0, 0, 0); scenario(1, 1, 0); scenario(1, 99, 7); tail(0, 1, 99) -> 0; tail(0, 1, 98) -> 7
            scenario(2, 99, 3); scenario(2, 1, 8); tail(0, 2, 0) -> 8; tail(0, 2, 1) -> 3; tail(0, 2, 99) -> 3
            """);
        s.run("Terms: the weights times 100, not rounded percents: 1 of 3 is more than 33 percent", """
            layer(0, 999999, 100, 0, 0, 0); scenario(0, 1, 9); scenario(0, 2, 4); tail(0, 0, 33) -> 9; tail(0, 0, 34) -> 4
            scenario(1, 2, 9); scenario(1, 1, 4); tail(0, 1, 66) -> 9; tail(0, 1, 67) -> 4
            """);
        s.run("Terms: what the LAYER pays, not what the units are; nothing is paid at all", """
            layer(10, 20, 50, 0, 0, 0); scenario(0, 1, 10); scenario(0, 1, 11); tail(0, 0, 0) -> 0; tail(0, 0, 99) -> 0
            scenario(0, 1, 999999); tail(0, 0, 0) -> 10; tail(0, 0, 33) -> 10; tail(0, 0, 34) -> 0; quota(90); scenario(1, 1, 120)
            tail(0, 1, 0) -> 1; tail(0, 1, 99) -> 1
            """);
        for (int model = 0; model < 3; model++) {
            StringBuilder b = new StringBuilder("layer(0, 999999, 100, 0, 0, 0);");
            for (int i = 0; i < 36; i++) {
                b.append("scenario(" + i % 3 + ", 1, " + (1000 * (i % 3) + 10 * (11 - i / 3)) + ");");
            }
            int base = 1000 * model;
            s.run("promise 27: of 12 SCENARIOS each, of the MODEL " + model, b + "tail(0, " + model + ", 0) -> " + (base + 110)
                + "; tail(0, " + model + ", 8) -> " + (base + 110) + "; tail(0, " + model + ", 9) -> " + (base + 100)
                + "; tail(0, " + model + ", 91) -> " + (base + 10) + "; tail(0, " + model + ", 92) -> " + base
                + "; price(0, " + model + ") -> " + 1000 * (base + 55));
        }
    }

    private static void addDearest(Suite s) {
        s.run("promise 28: by which MODEL a LAYER is dearest, of several the lowest", """
            layer(0, 1000, 100, 0, 0, 0); layer(999999, 1, 100, 0, 0, 0); scenario(2, 3, 100); dearest(0, false) -> 2
            dearest(1, false) -> 2; scenario(1, 5, 100); dearest(0, false) -> 1; dearest(1, false) -> 1; scenario(2, 1, 101)
            dearest(0, false) -> 2; dearest(1, false) -> 1; scenario(0, 99, 5000); dearest(0, false) -> 0; dearest(1, false) -> 0
            scenario(1, 99, 0); scenario(2, 99, 1000); dearest(0, false) -> 0
            """);
        s.run("promise 28, `isBits`: the bits of that quotient as a double", "layer(0, 1000, 100, 0, 0, 0); layer(999999, 1, 100, 0, 0, 0);"
            + "scenario(2, 3, 100); dearest(0, true) -> " + bits(100.0) + "; dearest(1, true) -> 0; scenario(2, 1, 101)"
            + "; dearest(0, true) -> " + bits(100.25) + "; scenario(0, 99, 5000); dearest(0, true) -> " + bits(1000.0)
            + "; scenario(1, 3, 1); dearest(0, true) -> " + bits(1000.0));
        s.run("promise 28: by quotients, not by PRICES that are rounded: the MODEL 1 is dearer by less than a thousandth",
            "layer(0, 999999, 100, 0, 0, 0);" + Worlds.times(10, "scenario(0, 99, 1); scenario(1, 99, 1)") + "scenario(0, 98, 1)"
                + "; scenario(0, 1, 2); scenario(1, 97, 1); scenario(1, 1, 2); price(0, 0) -> 1000; price(0, 1) -> 1000; dearest(0, false) -> 1"
                + "; dearest(0, true) -> " + bits(1089.0 / 1088.0));
        s.run("promise 28: quotients that are the same by other weights: the lowest", """
            layer(0, 999999, 100, 0, 0, 0); scenario(1, 1, 1); scenario(1, 2, 0); scenario(2, 2, 1); scenario(2, 4, 0)
            dearest(0, false) -> 1; scenario(0, 33, 1); scenario(0, 66, 0); dearest(0, false) -> 0; dearest(0, true) ->\s"""
            + bits(1.0 / 3.0));
    }

    private static void bits(Suite t) {
        for (int weight = 1; weight <= 1090; weight++) {
            for (int units : new int[] {1, 2, 3, 777, 65536, 999999}) {
                StringBuilder b = new StringBuilder("layer(0, 999999, 100, 0, 0, 0);");
                for (int rest = weight - 1; rest > 0; rest -= 99) {
                    b.append("scenario(0, " + Math.min(rest, 99) + ", 0);");
                }
                b.append("scenario(0, 1, " + units + "); dearest(0, true) -> " + bits((double) units / (double) weight));
                new Run(t).go(b.toString());
            }
        }
    }
}
