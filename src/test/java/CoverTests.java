/** Promises 6 to 9: QUOTA, LAYERS, PARTS and RETROS are told. */
final class CoverTests {
    private CoverTests() {
    }

    static void addTo(Suite s) {
        s.test("promise 6: quota", CoverTests::quota);
        s.test("promise 7: layer takes the edges", CoverTests::layers);
        s.test("promise 7: layer refuses", CoverTests::layerRefuses);
        s.test("promise 8: part", CoverTests::parts);
        s.test("promise 8: part refuses", CoverTests::partRefuses);
        s.test("promise 9: retro", CoverTests::retros);
        s.test("promise 9: retro refuses", CoverTests::retroRefuses);
    }

    static void quota(Suite t) {
        Stormbond x = new Stormbond();
        x.loss(0, 0, 999);
        x.choose(0, 0, 0);
        t.due("quota(90)", 0, x.quota(90));
        t.due("its units", 899, x.sum(2));
        t.due("quota(33)", 90, x.quota(33));
        t.due("its units", 329, x.sum(2));
        t.refusesArgument(x, "quota(91)", () -> x.quota(91));
        t.refusesArgument(x, "quota(-1)", () -> x.quota(-1));
        t.refusesArgument(x, "quota(min)", () -> x.quota(Integer.MIN_VALUE));
        t.due("quota(0)", 33, x.quota(0));
        t.due("its units", 0, x.sum(2));
    }

    static void layers(Suite t) {
        Stormbond x = new Stormbond();
        t.due("least", 0, x.layer(0, 1, 1, 0, 0, 0));
        t.due("greatest", 1, x.layer(999999, 999999, 100, 3, 99999, 150));
        t.due("third", 2, x.layer(10, 20, 30, 1, 40, 50));
        t.due("the same again", 3, x.layer(10, 20, 30, 1, 40, 50));
        t.due("fifth", 4, x.layer(10, 20, 30, 2, 40, 50));
        t.refusesState(x, "sixth", () -> x.layer(10, 20, 30, 2, 40, 50));
        t.refusesArgument(x, "sixth, wrong too", () -> x.layer(10, 0, 30, 2, 40, 50));
        t.refusesIndex(x, "no sixth", () -> x.part(5, 0, 0));
        t.due("fifth is there", 100, x.part(4, 0, 0));
    }

    static void layerRefuses(Suite t) {
        Stormbond x = new Stormbond();
        int[] right = {5, 6, 7, 1, 8, 9};
        int[] least = {0, 1, 1, 0, 0, 0};
        int[] most = {999999, 999999, 100, 3, 99999, 150};
        for (int k = 0; k < 6; k++) {
            for (int bad : new int[] {least[k] - 1, most[k] + 1, Integer.MIN_VALUE, Integer.MAX_VALUE}) {
                int[] a = right.clone();
                a[k] = bad;
                t.refusesArgument(x, "layer with " + bad + " at " + k,
                    () -> x.layer(a[0], a[1], a[2], a[3], a[4], a[5]));
            }
        }
        t.due("the first number", 0, x.layer(5, 6, 7, 1, 8, 9));
    }

    static void parts(Suite t) {
        Stormbond x = new Stormbond();
        x.layer(0, 1000, 100, 0, 0, 0);
        x.layer(0, 1000, 100, 0, 0, 0);
        x.loss(0, 0, 1000);
        x.choose(0, 0, 0);
        t.due("part", 70, x.part(0, 0, 30));
        t.due("part", 0, x.part(0, 5, 70));
        t.due("another LAYER", 0, x.part(1, 3, 100));
        t.due("in place of it", 25, x.part(0, 0, 5));
        t.due("in place of it, to the full", 0, x.part(0, 5, 95));
        t.due("0", 5, x.part(0, 0, 0));
        t.due("reinsurer 0", 0, x.reinsurer(0, 0));
        t.due("reinsurer 5", 950, x.reinsurer(5, 0));
        t.due("reinsurer 3", 1000, x.reinsurer(3, 0));
        t.due("reinsurer 1", 0, x.reinsurer(1, 0));
    }

    static void partRefuses(Suite t) {
        Stormbond x = new Stormbond();
        t.refusesIndex(x, "no LAYER", () -> x.part(0, 0, 0));
        x.layer(0, 1000, 100, 0, 0, 0);
        x.loss(0, 0, 1000);
        x.choose(0, 0, 0);
        x.part(0, 1, 60);
        t.refusesState(x, "101", () -> x.part(0, 2, 41));
        t.refusesArgument(x, "percent 101", () -> x.part(0, 2, 101));
        t.refusesArgument(x, "percent -1", () -> x.part(0, 2, -1));
        t.refusesIndex(x, "LAYER 1, percent 101", () -> x.part(1, 2, 101));
        t.refusesIndex(x, "LAYER -1", () -> x.part(-1, 2, 1));
        t.refusesIndex(x, "REINSURER 6, percent -1", () -> x.part(0, 6, -1));
        t.refusesIndex(x, "REINSURER -1", () -> x.part(0, -1, 1));
        t.due("100", 0, x.part(0, 2, 40));
        t.refusesState(x, "in place of it, 101", () -> x.part(0, 1, 61));
        t.refusesArgument(x, "greatest percent", () -> x.part(0, 1, Integer.MAX_VALUE));
    }

    static void retros(Suite t) {
        Stormbond x = new Stormbond();
        x.quota(90);
        x.loss(0, 0, 1000);
        x.choose(0, 0, 0);
        t.due("the first one", 0, x.retro(0, 1, 100, 999999));
        t.due("taken by 1", 800, x.reinsurer(1, 1));
        t.due("in place of it", 999999, x.retro(0, 2, 0, 1));
        t.due("not taken by 1", 0, x.reinsurer(1, 1));
        t.due("taken by 2", 1, x.reinsurer(2, 1));
        t.due("none", 1, x.retro(0, 2, 999999, 0));
        t.due("not taken by 2", 0, x.reinsurer(2, 1));
        t.due("again", 0, x.retro(0, 5, 999999, 7));
        t.due("again", 7, x.retro(0, 5, 0, 8));
        t.due("of another one", 0, x.retro(5, 0, 0, 3));
        t.due("taken back", 903, x.reinsurer(0, 1));
    }

    static void retroRefuses(Suite t) {
        Stormbond x = new Stormbond();
        x.quota(90);
        x.loss(0, 0, 1000);
        x.choose(0, 0, 0);
        x.retro(0, 1, 0, 5);
        t.refusesIndex(x, "retro(6, 0, 0, 0)", () -> x.retro(6, 0, 0, 0));
        t.refusesIndex(x, "retro(-1, 0, 0, 0)", () -> x.retro(-1, 0, 0, 0));
        t.refusesIndex(x, "retro(0, 6, 0, 0)", () -> x.retro(0, 6, 0, 0));
        t.refusesIndex(x, "retro(0, -1, 0, 0)", () -> x.retro(0, -1, 0, 0));
        t.refusesIndex(x, "retro(6, 6, -1, -1)", () -> x.retro(6, 6, -1, -1));
        t.refusesArgument(x, "retro(0, 0, 0, 1)", () -> x.retro(0, 0, 0, 1));
        t.refusesArgument(x, "retro(0, 0, 0, 0)", () -> x.retro(0, 0, 0, 0));
        t.refusesArgument(x, "floor -1", () -> x.retro(0, 1, -1, 1));
        t.refusesArgument(x, "floor 1000000", () -> x.retro(0, 1, 1000000, 1));
        t.refusesArgument(x, "floor 1000000 of none", () -> x.retro(0, 1, 1000000, 0));
        t.refusesArgument(x, "floor -1 of none", () -> x.retro(0, 1, -1, 0));
        t.refusesArgument(x, "depth -1", () -> x.retro(0, 1, 0, -1));
        t.refusesArgument(x, "depth 1000000", () -> x.retro(0, 1, 0, 1000000));
        t.due("the one before", 5, x.retro(0, 1, 999999, 999999));
    }
}
