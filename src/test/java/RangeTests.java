/**
 * Each argument that has a range: the least and the greatest value are taken, the one below and the one above
 * are refused as the document says, and so are the least and the greatest int; what is refused changes nothing.
 * The names tell the sentences: "`units`: 0 to 99999" is that of the argument's list, the others are of "Terms".
 */
final class RangeTests {
    private final Suite s;

    private RangeTests(Suite s) {
        this.s = s;
    }

    static void addTo(Suite s) {
        RangeTests all = new RangeTests(s);
        all.addLosses();
        all.addWindows();
        all.addCovers();
        all.addStations();
        all.addBonds();
        all.addHours();
        all.addQuestions();
        all.addPrices();
    }

    private void argument(String name, int least, int most, String call, Object forLeast, Object forMost) {
        s.range(Worlds.SOME, name, least, most, "argument", call, forLeast, forMost);
    }

    private void number(String name, int least, int most, String call, Object forLeast, Object forMost) {
        s.range(Worlds.SOME, name, least, most, "index", call, forLeast, forMost);
    }

    private void addLosses() {
        argument("promise 2, loss: `peril` is out of range, PERILS are 0, 1 and 2", 0, 2, "loss(#, 7, 8)", 5, 5);
        argument("promise 2, loss: `hour` is out of range, HOURS are 0 to 2199", 0, 2199, "loss(1, #, 8)", 5, 5);
        argument("promise 2, loss: `units`: 0 to 99999", 0, 99999, "loss(1, 7, #)", 5, 5);
        number("promise 3, creep: there is no such LOSS, of 5", 0, 4, "creep(#, 77)", 900, 0);
        argument("promise 3, creep: `units`: 0 to 99999", 0, 99999, "creep(1, #)", 700, 700);
    }

    private void addWindows() {
        argument("promise 4, choose: `peril` is out of range, PERILS are 0, 1 and 2", 0, 2,
            "choose(#, 1000, 1000)", 2, 2);
        argument("promise 4, choose: `first` is out of range, HOURS are 0 to 2199", 0, 2199, "choose(2, #, #)", 2, 2);
        argument("promise 4, choose: `first` is at most the last one, and the window not too long", 1533, 1700,
            "choose(2, #, 1700)", 2, 2);
        argument("promise 4, choose: `last` is not below the first one, nor above 2199", 2100, 2199,
            "choose(2, 2100, #)", 2, 2);
        argument("promise 4, choose: `last`, WIND has a clause of 72 HOURS", 500, 571, "choose(0, 500, #)", 2, 2);
        argument("promise 4, choose: `last`, FLOOD has a clause of 168 HOURS", 500, 667, "choose(1, 500, #)", 2, 2);
        argument("promise 4, choose: `last`, QUAKE has a clause of 168 HOURS", 500, 667, "choose(2, 500, #)", 2, 2);
    }

    private void addCovers() {
        argument("promise 6, quota: `percent`: 0 to 90", 0, 90, "quota(#)", 10, 10);
        argument("promise 7, layer: `floor`: 0 to 999999", 0, 999999, "layer(#, 5, 6, 1, 7, 8)", 2, 2);
        argument("promise 7, layer: `depth`: 1 to 999999", 1, 999999, "layer(5, #, 6, 1, 7, 8)", 2, 2);
        argument("promise 7, layer: `share`: 1 to 100", 1, 100, "layer(5, 6, #, 1, 7, 8)", 2, 2);
        argument("promise 7, layer: `reinstatements`: 0 to 3", 0, 3, "layer(5, 6, 7, #, 7, 8)", 2, 2);
        argument("promise 7, layer: `premium`: 0 to 99999", 0, 99999, "layer(5, 6, 7, 1, #, 8)", 2, 2);
        argument("promise 7, layer: `rate`: 0 to 150", 0, 150, "layer(5, 6, 7, 1, 8, #)", 2, 2);
        number("promise 8, part: there is no such LAYER, of 2", 0, 1, "part(#, 3, 0)", 10, 0);
        number("promise 8, part: there is no such REINSURER, these are 0 to 5", 0, 5, "part(0, #, 1)", 39, 9);
        argument("promise 8, part: `percent`: 0 to 100", 0, 100, "part(1, 2, #)", 100, 0);
        number("promise 9, retro: there is no such REINSURER to pass on, these are 0 to 5", 0, 5,
            "retro(#, 3, 0, 5)", 100, 0);
        number("promise 9, retro: there is no such REINSURER to take, these are 0 to 5", 0, 5,
            "retro(3, #, 0, 5)", 0, 0);
        argument("promise 9, retro: `floor`: 0 to 999999", 0, 999999, "retro(1, 4, #, 5)", 1000, 1000);
        argument("promise 9, retro: floor does not matter without a DEPTH, but is in its range", 0, 999999,
            "retro(1, 4, #, 0)", 1000, 1000);
        argument("promise 9, retro: `depth`: 1 to 999999; 0 for no RETRO", 0, 999999, "retro(1, 4, 5, #)", 1000, 1000);
    }

    private void addStations() {
        argument("promise 10, station: `cell`: 0 to 15", 0, 15, "station(#)", 3, 3);
        number("promise 11, reading: there is no such STATION, of 3", 0, 2, "reading(#, 7, 1, 3)", 4, 4);
        argument("promise 11, reading: `hour` is out of range, HOURS are 0 to 2199", 0, 2199,
            "reading(0, #, 1, 3)", 4, 4);
        argument("promise 11, reading: `peril` is out of range, PERILS are 0, 1 and 2", 0, 2,
            "reading(0, 7, #, 3)", 4, 4);
        argument("promise 11, reading: `strength`: 0 to 9", 0, 9, "reading(0, 7, 1, #)", 4, 4);
        number("promise 12, fails: there is no such STATION, of 3", 0, 2, "fails(#, 30)", 1, 0);
        argument("promise 12, fails: `hour` is out of range, HOURS are 0 to 2199", 0, 2199, "fails(0, #)", 0, 1);
    }

    private void addBonds() {
        argument("promise 13, bond: `principal`: 1 to 999999", 1, 999999, "bond(#, 1, 3, 50, 60, 4, 5)", 3, 3);
        argument("promise 13, bond: `peril` is out of range, PERILS are 0, 1 and 2", 0, 2,
            "bond(9, #, 3, 50, 60, 4, 5)", 3, 3);
        argument("promise 13, bond: `box`: 1 to 65535", 1, 65535, "bond(9, 1, #, 50, 60, 4, 5)", 3, 3);
        argument("promise 13, bond: `first` is an HOUR, and the last one not below it", 0, 60,
            "bond(9, 1, 3, #, 60, 4, 5)", 3, 3);
        argument("promise 13, bond: `first` is an HOUR, these are up to 2199", 0, 2199,
            "bond(9, 1, 3, #, 2199, 4, 5)", 3, 3);
        argument("promise 13, bond: `last`: the last one, not below the first one, an HOUR", 50, 2199,
            "bond(9, 1, 3, 50, #, 4, 5)", 3, 3);
        argument("promise 13, bond: `trigger`: 1 to 9", 1, 9, "bond(9, 1, 3, 50, 60, #, 5)", 3, 3);
        argument("promise 13, bond: `percent`: 1 to 100", 1, 100, "bond(9, 1, 3, 50, 60, 4, #)", 3, 3);
        number("promise 14, extend: there is no such BOND, of 3", 0, 2, "extend(#, 5)", 65, 2204);
        argument("promise 14, extend: `hours`: 1 to 500", 1, 500, "extend(0, #)", 61, 560);
    }

    private void addHours() {
        argument("promise 15, pass: `hours`: 1 to 500", 1, 500, "pass(#)", 41, 540);
        number("promise 16, scenario: there is no such MODEL, these are 0 to 2", 0, 2, "scenario(#, 3, 4)", 3, 2);
        argument("promise 16, scenario: `weight`: 1 to 99", 1, 99, "scenario(0, #, 4)", 3, 3);
        argument("promise 16, scenario: `units`: 0 to 999999", 0, 999999, "scenario(0, 3, #)", 3, 3);
    }

    private void addQuestions() {
        number("promise 17, occurrence: there is no such OCCURRENCE, of 2", 0, 1, "occurrence(#, 2)", 1440, 450);
        argument("promise 17, occurrence: `what`: 0 to 5", 0, 5, "occurrence(0, #)", 1600, 1);
        number("promise 18, hit: there is no such LAYER, of 2", 0, 1, "hit(#, 0, 1)", 360, 850);
        number("promise 18, hit: there is no such OCCURRENCE, of 2", 0, 1, "hit(0, #, 1)", 360, 315);
        argument("promise 18, hit: `what`: 0 to 4", 0, 4, "hit(0, 0, #)", 400, 50);
        argument("promise 19, sum: `what`: 0 to 7", 0, 7, "sum(#)", 2400, 1817);
        number("promise 20, reinsurer: there is no such REINSURER, these are 0 to 5", 0, 5, "reinsurer(#, 1)", 412, 0);
        argument("promise 20, reinsurer: `what`: 0 to 2", 0, 2, "reinsurer(1, #)", 405, 10);
        argument("promise 22, best: peril is out of range, PERILS are 0, 1 and 2", 0, 2, "best(#)", 1560, 153);
        argument("promise 23, bestAnew: peril is out of range, PERILS are 0, 1 and 2", 0, 2, "bestAnew(#)", 1560, 153);
        number("promise 24, ofBond: there is no such BOND, of 3", 0, 2, "ofBond(#, 1)", 925, 0);
        argument("promise 24, ofBond: `what`: 0 to 5", 0, 5, "ofBond(2, #)", 5, 0);
    }

    private void addPrices() {
        number("promise 26, price: there is no such LAYER, of 2", 0, 1, "price(#, 0)", 346500, 591000);
        number("promise 26, price: there is no such MODEL, these are 0 to 2", 0, 2, "price(0, #)", 346500, 360000);
        number("promise 27, tail: there is no such LAYER, of 2", 0, 1, "tail(#, 0, 70)", 315, 150);
        number("promise 27, tail: there is no such MODEL, these are 0 to 2", 0, 2, "tail(0, #, 70)", 315, 360);
        argument("promise 27, tail: `percent`: 0 to 99", 0, 99, "tail(0, 0, #)", 360, 315);
        number("promise 28, dearest: there is no such LAYER, of 2", 0, 1, "dearest(#, false)", 2, 0);
        number("promise 28, dearest: there is no such LAYER, of 2, of which the bits are told", 0, 1,
            "dearest(#, true)", Double.doubleToLongBits(360.0), Double.doubleToLongBits(591.0));
    }
}
