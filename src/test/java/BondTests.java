/** Promises 10 to 15, 24, 25 and 29: STATIONS, READINGS, BONDS and HOURS. */
final class BondTests {
    private BondTests() {
    }

    static void addTo(Suite s) {
        s.test("promise 10: station", BondTests::stations);
        s.test("promise 11: reading", BondTests::readings);
        s.test("promise 11: reading refuses", BondTests::readingRefuses);
        s.test("promise 12: fails", BondTests::fails);
        s.test("promise 12: fails refuses", BondTests::failsRefuses);
        s.test("promise 13: bond takes the edges", BondTests::bonds);
        s.test("promise 13: bond refuses", BondTests::bondRefuses);
        s.test("promise 14: extend", BondTests::extend);
        s.test("promise 14: extend refuses", BondTests::extendRefuses);
        s.test("promises 15 and 29: pass and hour", BondTests::pass);
        s.test("promise 24: ofBond, the INDEX by term, PERIL and BOX", BondTests::index);
        s.test("promise 24: ofBond, the INDEX when STATIONS fail", BondTests::indexWhenFailed);
        s.test("promise 24: ofBond, the nearest STATION", BondTests::nearest);
        s.test("promise 24: ofBond, the nearest STATION of all CELLS", BondTests::nearestOfAll);
        s.test("promise 24: ofBond, the 60th READING", BondTests::lastReading);
        s.test("promise 24: ofBond, the nearest STATION when others fail", BondTests::nearestWhenFailed);
        s.test("promise 24: ofBond, the PAYOUT", BondTests::payout);
        s.test("promise 24: ofBond, TRUST, PAID and FREE", BondTests::trust);
        s.test("promise 24: ofBond refuses", BondTests::ofBondRefuses);
        s.test("promise 25: basis", BondTests::basis);
    }

    static void stations(Suite t) {
        Stormbond x = new Stormbond();
        t.refusesArgument(x, "station(-1)", () -> x.station(-1));
        t.refusesArgument(x, "station(16)", () -> x.station(16));
        int[] cells = {0, 15, 3, 3, 12, 7};
        for (int i = 0; i < 6; i++) {
            t.due("station", i, x.station(cells[i]));
        }
        t.refusesState(x, "the seventh", () -> x.station(1));
        t.refusesArgument(x, "the seventh, wrong too", () -> x.station(16));
        t.due("a READING of the sixth", 1, x.reading(5, 0, 0, 1));
        t.refusesIndex(x, "a READING of the seventh", () -> x.reading(6, 0, 0, 1));
    }

    static void readings(Suite t) {
        Stormbond x = new Stormbond();
        x.station(0);
        x.station(15);
        t.due("first", 1, x.reading(0, 0, 0, 0));
        t.due("second", 2, x.reading(1, 2199, 2, 9));
        x.fails(1, 5);
        for (int i = 3; i <= 60; i++) {
            t.due("one more, whether it counts or not", i, x.reading(i % 2, i, i % 3, i % 10));
        }
        t.refusesState(x, "the 61st", () -> x.reading(0, 0, 0, 0));
        t.refusesArgument(x, "the 61st, wrong too", () -> x.reading(0, 2200, 0, 0));
        t.refusesIndex(x, "the 61st, of no STATION", () -> x.reading(2, 2200, 0, 0));
    }

    static void readingRefuses(Suite t) {
        Stormbond x = new Stormbond();
        t.refusesIndex(x, "no STATION", () -> x.reading(0, 0, 0, 0));
        x.station(4);
        t.refusesIndex(x, "STATION -1, all wrong", () -> x.reading(-1, -1, -1, -1));
        int[][] wrong = {{-1, 0, 0}, {2200, 0, 0}, {0, -1, 0}, {0, 3, 0}, {0, 0, -1}, {0, 0, 10}};
        for (int[] a : wrong) {
            t.refusesArgument(x, "reading(0, " + a[0] + ", " + a[1] + ", " + a[2] + ")",
                () -> x.reading(0, a[0], a[1], a[2]));
        }
        t.due("the first one", 1, x.reading(0, 2199, 2, 9));
    }

    static void fails(Suite t) {
        Stormbond x = new Stormbond();
        x.station(0);
        x.station(1);
        x.station(2);
        x.reading(0, 10, 0, 1);
        x.reading(0, 11, 1, 0);
        x.reading(0, 12, 2, 1);
        x.reading(1, 1, 0, 1);
        t.due("from HOUR 12 on", 2, x.fails(0, 12));
        t.due("READINGS are kept", 5, x.reading(0, 5, 0, 9));
        t.due("of HOUR 0 on", 0, x.fails(1, 0));
        t.due("without READINGS", 0, x.fails(2, 2199));
    }

    static void failsRefuses(Suite t) {
        Stormbond x = new Stormbond();
        t.refusesIndex(x, "no STATION", () -> x.fails(0, 0));
        x.station(0);
        x.bond(100, 0, 1, 0, 50, 1, 50);
        x.reading(0, 20, 0, 1);
        t.refusesIndex(x, "fails(1, -1)", () -> x.fails(1, -1));
        t.refusesIndex(x, "fails(-1, 0)", () -> x.fails(-1, 0));
        t.refusesArgument(x, "fails(0, -1)", () -> x.fails(0, -1));
        t.refusesArgument(x, "fails(0, 2200)", () -> x.fails(0, 2200));
        t.due("the last HOUR", 1, x.fails(0, 2199));
        t.refusesState(x, "told before", () -> x.fails(0, 0));
        t.refusesState(x, "told before", () -> x.fails(0, 2199));
        t.refusesArgument(x, "told before, wrong too", () -> x.fails(0, 2200));
        t.due("INDEX", 1, x.ofBond(0, 0));
    }

    static void bonds(Suite t) {
        Stormbond x = new Stormbond();
        t.due("least", 0, x.bond(1, 0, 1, 0, 0, 1, 1));
        t.due("greatest", 1, x.bond(999999, 2, 65535, 2199, 2199, 9, 100));
        x.pass(10);
        t.due("its last HOUR is this", 2, x.bond(1, 0, 1, 0, 10, 1, 1));
        t.refusesState(x, "its last HOUR has passed", () -> x.bond(1, 0, 1, 0, 9, 1, 1));
        t.due("fourth", 3, x.bond(1, 0, 1, 5, 20, 1, 1));
        t.due("fifth", 4, x.bond(1, 0, 1, 5, 20, 1, 1));
        t.refusesState(x, "sixth", () -> x.bond(1, 0, 1, 5, 20, 1, 1));
        t.refusesArgument(x, "sixth, wrong too", () -> x.bond(1, 0, 1, 21, 20, 1, 1));
    }

    static void bondRefuses(Suite t) {
        Stormbond x = new Stormbond();
        x.pass(100);
        int[] right = {5, 1, 6, 200, 300, 7, 8};
        int[] least = {1, 0, 1, 0, 0, 1, 1};
        int[] most = {999999, 2, 65535, 2199, 2199, 9, 100};
        for (int k = 0; k < 7; k++) {
            for (int bad : new int[] {least[k] - 1, most[k] + 1, Integer.MIN_VALUE, Integer.MAX_VALUE}) {
                int[] a = right.clone();
                a[k] = bad;
                t.refusesArgument(x, "bond with " + bad + " at " + k,
                    () -> x.bond(a[0], a[1], a[2], a[3], a[4], a[5], a[6]));
            }
        }
        t.refusesArgument(x, "last below first", () -> x.bond(5, 1, 6, 200, 199, 7, 8));
        t.refusesArgument(x, "last below first and past", () -> x.bond(5, 1, 6, 50, 49, 7, 8));
        t.refusesState(x, "past", () -> x.bond(5, 1, 6, 50, 99, 7, 8));
        t.due("the first number", 0, x.bond(5, 1, 6, 50, 100, 7, 8));
    }

    static void extend(Suite t) {
        Stormbond x = new Stormbond();
        x.station(0);
        x.reading(0, 60, 0, 9);
        x.bond(1000, 0, 1, 0, 50, 9, 10);
        x.bond(1000, 0, 1, 0, 2199, 9, 10);
        x.bond(1000, 0, 1, 0, 50, 9, 10);
        t.due("beyond 2199", 2699, x.extend(1, 500));
        x.pass(50);
        t.due("in its last HOUR", 51, x.extend(0, 1));
        t.due("the term is what it was", 0, x.ofBond(0, 0));
        x.pass(1);
        t.due("extended: in TRUST", 1, x.ofBond(0, 2));
        t.due("not extended: not in TRUST", 0, x.ofBond(2, 2));
        t.refusesState(x, "not in TRUST any more", () -> x.extend(2, 500));
        x.pass(1);
        t.due("behind it", 0, x.ofBond(0, 2));
        t.due("FREE", 1000, x.ofBond(0, 4));
        x.pass(500);
        x.pass(500);
        x.pass(500);
        x.pass(500);
        x.pass(147);
        t.due("extended beyond all HOURS", 1, x.ofBond(1, 2));
    }

    static void extendRefuses(Suite t) {
        Stormbond x = new Stormbond();
        t.refusesIndex(x, "no BOND", () -> x.extend(0, 1));
        x.bond(1000, 0, 1, 0, 50, 9, 10);
        x.bond(1000, 0, 1, 0, 50, 9, 10);
        t.refusesIndex(x, "extend(2, 0)", () -> x.extend(2, 0));
        t.refusesIndex(x, "extend(-1, 1)", () -> x.extend(-1, 1));
        t.refusesArgument(x, "extend(0, 0)", () -> x.extend(0, 0));
        t.refusesArgument(x, "extend(0, 501)", () -> x.extend(0, 501));
        t.due("extend", 60, x.extend(0, 10));
        t.refusesState(x, "extended", () -> x.extend(0, 10));
        t.refusesArgument(x, "extended, wrong too", () -> x.extend(0, 501));
        x.pass(61);
        t.refusesState(x, "extended, and behind it", () -> x.extend(0, 1));
        t.refusesState(x, "behind it", () -> x.extend(1, 20));
        t.refusesArgument(x, "behind it, wrong too", () -> x.extend(1, -20));
    }

    static void pass(Suite t) {
        Stormbond x = new Stormbond();
        t.due("hour", 0, x.hour());
        t.due("pass(1)", 1, x.pass(1));
        t.due("pass(500)", 501, x.pass(500));
        for (int hours : new int[] {0, -1, 501, Integer.MIN_VALUE, Integer.MAX_VALUE}) {
            t.refusesArgument(x, "pass(" + hours + ")", () -> x.pass(hours));
        }
        x.pass(500);
        x.pass(500);
        t.due("pass(500)", 2001, x.pass(500));
        t.refusesState(x, "to 2200", () -> x.pass(199));
        t.refusesState(x, "to 2501", () -> x.pass(500));
        t.refusesArgument(x, "to 2502", () -> x.pass(501));
        t.due("pass(198)", 2199, x.pass(198));
        t.refusesState(x, "pass(1)", () -> x.pass(1));
        t.due("hour", 2199, x.hour());
        t.due("a LOSS that has passed", 0, x.loss(0, 0, 1));
    }

    static void index(Suite t) {
        Stormbond x = new Stormbond();
        x.station(5);
        x.station(6);
        x.station(0);
        x.bond(1000, 1, 1 << 5 | 1 << 6, 100, 200, 1, 10);
        t.due("without READINGS", 0, x.ofBond(0, 0));
        x.reading(0, 99, 1, 9);
        x.reading(0, 201, 1, 9);
        x.reading(0, 150, 0, 9);
        x.reading(0, 150, 2, 9);
        x.reading(2, 150, 1, 9);
        t.due("none of these", 0, x.ofBond(0, 0));
        x.reading(0, 100, 1, 2);
        t.due("the first HOUR", 2, x.ofBond(0, 0));
        x.reading(1, 200, 1, 4);
        t.due("the last HOUR", 4, x.ofBond(0, 0));
        x.reading(0, 150, 1, 3);
        t.due("the greatest", 4, x.ofBond(0, 0));
        t.due("by those in the BOX", -1, x.ofBond(0, 5));
        t.due("the BOX's first CELL", 1, x.bond(1000, 1, 1, 100, 200, 1, 10));
        t.due("the STATION 2", 9, x.ofBond(1, 0));
        x.station(15);
        x.reading(3, 150, 1, 7);
        x.bond(1000, 1, 1 << 15, 150, 150, 1, 10);
        t.due("the last CELL", 7, x.ofBond(2, 0));
        t.due("in it", -1, x.ofBond(2, 5));
    }

    static void indexWhenFailed(Suite t) {
        Stormbond x = new Stormbond();
        x.station(0);
        x.station(0);
        x.station(1);
        x.bond(1000, 0, 1, 0, 100, 1, 10);
        x.reading(0, 49, 0, 5);
        x.reading(0, 50, 0, 6);
        x.reading(1, 60, 0, 1);
        x.reading(2, 60, 0, 3);
        t.due("ahead", 6, x.ofBond(0, 0));
        x.fails(0, 50);
        t.due("one has failed, what it read ahead counts", 5, x.ofBond(0, 0));
        x.reading(0, 80, 0, 9);
        t.due("told behind that", 5, x.ofBond(0, 0));
        t.due("by those in the BOX", -1, x.ofBond(0, 5));
        x.fails(1, 100);
        t.due("all have failed by the last HOUR", 3, x.ofBond(0, 0));
        t.due("by the nearest", 2, x.ofBond(0, 5));
        x.fails(2, 100);
        t.due("none is left: as told ahead", 5, x.ofBond(0, 0));
        t.due("by none", -1, x.ofBond(0, 5));
        Stormbond y = new Stormbond();
        y.station(0);
        y.station(1);
        y.bond(1000, 0, 1, 0, 100, 1, 10);
        y.reading(0, 100, 0, 4);
        y.reading(1, 100, 0, 8);
        y.fails(0, 101);
        t.due("failed behind the term", 4, y.ofBond(0, 0));
        t.due("by those in the BOX", -1, y.ofBond(0, 5));
    }

    static void nearest(Suite t) {
        Stormbond x = new Stormbond();
        x.bond(1000, 0, 1 << 0, 0, 100, 1, 10);
        t.due("no STATION", -1, x.ofBond(0, 5));
        x.station(15);
        x.bond(1000, 0, 1 << 9 | 1 << 3, 0, 100, 1, 10);
        x.bond(1000, 0, 1 << 12, 0, 100, 1, 10);
        t.due("the only one", 0, x.ofBond(0, 5));
        x.station(8);
        t.due("two rows from 0", 1, x.ofBond(0, 5));
        t.due("one column from 9", 1, x.ofBond(1, 5));
        x.station(3);
        t.due("three columns from 0", 1, x.ofBond(0, 5));
        t.due("in the BOX", -1, x.ofBond(1, 5));
        x.station(5);
        t.due("a row and a column: the lowest", 1, x.ofBond(0, 5));
        t.due("one row from 12", 1, x.ofBond(2, 5));
        x.station(4);
        t.due("one row from 0", 4, x.ofBond(0, 5));
        x.station(1);
        t.due("one column from 0: the lowest", 4, x.ofBond(0, 5));
        x.reading(4, 0, 0, 2);
        x.reading(5, 0, 0, 3);
        x.reading(1, 0, 0, 9);
        t.due("READINGS of the nearest alone", 2, x.ofBond(0, 0));
        t.due("READINGS of another", 9, x.ofBond(2, 0));
    }

    /** Two STATIONS and a BOX of one CELL, of each CELL: rows and columns reckoned by hand. */
    static void nearestOfAll(Suite t) {
        for (int cell = 0; cell < 16; cell++) {
            for (int a = 0; a < 16; a++) {
                for (int b = 0; b < 16; b++) {
                    Stormbond x = new Stormbond();
                    x.station(a);
                    x.station(b);
                    x.bond(1000, 0, 1 << cell, 0, 0, 1, 10);
                    int toA = Math.abs(a / 4 - cell / 4) + Math.abs(a % 4 - cell % 4);
                    int toB = Math.abs(b / 4 - cell / 4) + Math.abs(b % 4 - cell % 4);
                    int want = a == cell || b == cell ? -1 : toB < toA ? 1 : 0;
                    t.due("CELL " + cell + ", STATIONS in " + a + " and " + b, want, x.ofBond(0, 5));
                }
            }
        }
    }

    static void lastReading(Suite t) {
        Stormbond x = new Stormbond();
        x.station(0);
        x.bond(1000, 0, 1, 0, 2199, 1, 10);
        for (int i = 0; i < 59; i++) {
            x.reading(0, i, 0, 1);
        }
        t.due("59", 1, x.ofBond(0, 0));
        x.reading(0, 2199, 0, 9);
        t.due("60", 9, x.ofBond(0, 0));
        t.due("all but the last count", 59, x.fails(0, 2199));
    }

    static void nearestWhenFailed(Suite t) {
        Stormbond x = new Stormbond();
        x.station(1);
        x.station(2);
        x.station(3);
        x.bond(1000, 0, 1, 0, 100, 1, 10);
        x.reading(0, 10, 0, 4);
        x.reading(1, 10, 0, 5);
        x.reading(2, 10, 0, 6);
        x.reading(2, 101, 0, 9);
        t.due("0", 0, x.ofBond(0, 5));
        x.fails(0, 100);
        t.due("1", 1, x.ofBond(0, 5));
        t.due("its READING", 5, x.ofBond(0, 0));
        x.fails(1, 0);
        t.due("2", 2, x.ofBond(0, 5));
        x.fails(2, 101);
        t.due("2, which fails behind the term", 2, x.ofBond(0, 5));
        t.due("its READING", 6, x.ofBond(0, 0));
        x.station(0);
        t.due("one in the BOX", -1, x.ofBond(0, 5));
        t.due("without READINGS", 0, x.ofBond(0, 0));
    }

    static void payout(Suite t) {
        Stormbond x = new Stormbond();
        x.station(0);
        x.bond(1003, 0, 1, 0, 0, 3, 33);
        x.bond(999999, 0, 1, 0, 0, 1, 100);
        x.bond(7, 0, 1, 0, 0, 9, 1);
        x.bond(999999, 0, 1, 0, 0, 1, 1);
        x.reading(0, 0, 0, 2);
        t.due("below the trigger", 0, x.ofBond(0, 1));
        x.reading(0, 0, 0, 3);
        t.due("the trigger", 330, x.ofBond(0, 1));
        x.reading(0, 0, 0, 4);
        t.due("one more", 330 + 336, x.ofBond(0, 1));
        x.reading(0, 0, 0, 9);
        int paid = 330;
        for (int k = 3; k < 9; k++) {
            paid += (1003 - paid) / 2;
        }
        t.due("six more", paid, x.ofBond(0, 1));
        t.due("all of it", 999999, x.ofBond(1, 1));
        t.due("1 percent of 7", 0, x.ofBond(2, 1));
        t.due("half of the rest, eight times", 996131, x.ofBond(3, 1));
        t.due("in TRUST nothing is PAID", 0, x.ofBond(0, 3));
        t.due("in TRUST nothing is FREE", 0, x.ofBond(0, 4));
    }

    static void trust(Suite t) {
        Stormbond x = new Stormbond();
        x.station(0);
        x.bond(1000, 0, 1, 10, 20, 5, 40);
        x.reading(0, 15, 0, 5);
        x.pass(20);
        t.due("TRUST", 1, x.ofBond(0, 2));
        t.due("PAID", 0, x.ofBond(0, 3));
        t.due("FREE", 0, x.ofBond(0, 4));
        x.pass(1);
        t.due("TRUST", 0, x.ofBond(0, 2));
        t.due("PAID", 400, x.ofBond(0, 3));
        t.due("FREE", 600, x.ofBond(0, 4));
        x.reading(0, 15, 0, 6);
        t.due("by what is told by now", 700, x.ofBond(0, 3));
        t.due("by what is told by now", 300, x.ofBond(0, 4));
    }

    static void ofBondRefuses(Suite t) {
        Stormbond x = new Stormbond();
        t.refusesIndex(x, "no BOND", () -> x.ofBond(0, 0));
        x.bond(1000, 0, 1, 10, 20, 5, 40);
        t.refusesIndex(x, "ofBond(1, 6)", () -> x.ofBond(1, 6));
        t.refusesIndex(x, "ofBond(-1, 0)", () -> x.ofBond(-1, 0));
        t.refusesArgument(x, "ofBond(0, 6)", () -> x.ofBond(0, 6));
        t.refusesArgument(x, "ofBond(0, -1)", () -> x.ofBond(0, -1));
    }

    static void basis(Suite t) {
        Stormbond x = new Stormbond();
        x.station(0);
        x.bond(1000, 0, 1, 0, 20, 5, 40);
        x.bond(500, 0, 1, 0, 20, 5, 100);
        x.bond(500, 1, 1, 0, 20, 5, 100);
        t.due("nothing", 0, x.basis());
        x.loss(0, 0, 600);
        t.due("less", -600, x.basis());
        x.reading(0, 0, 0, 5);
        t.due("more", 900 - 600, x.basis());
        x.pass(21);
        t.due("PAID", 900 - 600, x.basis());
        x.layer(0, 100, 100, 1, 70, 100);
        x.choose(0, 0, 0);
        t.due("it pays for reinstating", 900 - 670, x.basis());
        x.part(0, 3, 100);
        t.due("100 are borne", 900 - 570, x.basis());
        x.quota(10);
        t.due("60 more are borne", 900 - 510, x.basis());
    }
}
