/**
 * "If several exceptions apply, the one that is named first in the throws clause is thrown." For each method that
 * names several, all that can apply together: what is wrong is said behind the name.
 */
final class FirstTests {
    private FirstTests() {
    }

    static void addTo(Suite s) {
        addLosses(s);
        addCovers(s);
        addStations(s);
        addBonds(s);
        addQuestions(s);
    }

    private static void addLosses(Suite s) {
        s.runIn(Worlds.FULL, "promise 2, loss: out of range ahead of 40 LOSSES", """
            loss(-1, 0, 0) -> argument; loss(3, 0, 0) -> argument; loss(0, -1, 0) -> argument
            loss(0, 2200, 0) -> argument; loss(0, 0, -1) -> argument; loss(0, 0, 100000) -> argument
            loss(0, 0, 0) -> state
            """);
        s.runIn(Worlds.SOME, "promise 3, creep: no such LOSS ahead of units out of range", """
            creep(5, -1) -> index; creep(5, 100000) -> index; creep(-1, -1) -> index; creep(MAX, MIN) -> index
            creep(4, -1) -> argument
            """);
        s.runIn(Worlds.FULL, "promise 4, choose: out of range ahead of 8 OCCURRENCES", """
            choose(-1, 2000, 2000) -> argument; choose(3, 2000, 2000) -> argument; choose(0, 2199, 2200) -> argument
            choose(0, -1, 0) -> argument; choose(0, 2000, 1999) -> argument; choose(0, 2000, 2072) -> argument
            choose(0, 2000, 2000) -> state
            """);
        s.runIn(Worlds.SOME, "promise 4, choose: out of range ahead of an HOUR in common", """
            choose(0, 10, 9) -> argument; choose(0, 81, 80) -> argument; choose(0, 9, 81) -> argument
            choose(0, 10, 82) -> argument; choose(0, 0, 2199) -> argument; choose(1, -1, 0) -> argument
            choose(1, 0, 168) -> argument; choose(0, 10, 81) -> state; choose(1, 0, 167) -> state
            """);
        s.runIn(Worlds.FULL, "promise 4, choose: 8 OCCURRENCES and an HOUR in common are one exception",
            "choose(0, 0, 70) -> state; choose(0, 2000, 2000) -> state");
    }

    private static void addCovers(Suite s) {
        s.runIn(Worlds.FULL, "promise 7, layer: out of range ahead of 5 LAYERS", """
            layer(-1, 1, 1, 0, 0, 0) -> argument; layer(1000000, 1, 1, 0, 0, 0) -> argument
            layer(0, 0, 1, 0, 0, 0) -> argument; layer(0, 1000000, 1, 0, 0, 0) -> argument
            layer(0, 1, 0, 0, 0, 0) -> argument; layer(0, 1, 101, 0, 0, 0) -> argument
            layer(0, 1, 1, -1, 0, 0) -> argument; layer(0, 1, 1, 4, 0, 0) -> argument
            layer(0, 1, 1, 0, -1, 0) -> argument; layer(0, 1, 1, 0, 100000, 0) -> argument
            layer(0, 1, 1, 0, 0, -1) -> argument; layer(0, 1, 1, 0, 0, 151) -> argument
            layer(0, 1, 1, 0, 0, 0) -> state
            """);
        s.runIn(Worlds.SOME, "promise 8, part: no such LAYER or REINSURER ahead of percent out of range", """
            part(2, 0, -1) -> index; part(2, 0, 101) -> index; part(-1, 0, MAX) -> index; part(0, 6, -1) -> index
            part(0, 6, 101) -> index; part(0, -1, MIN) -> index; part(2, 6, 101) -> index
            """);
        s.runIn(Worlds.SOME, "promise 8, part: percent out of range ahead of PARTS above 100 together", """
            part(1, 3, 101) -> argument; part(0, 0, 101) -> argument; part(0, 3, MAX) -> argument
            part(1, 3, 100) -> state; part(1, 3, 1) -> state
            """);
        s.runIn(Worlds.SOME, "promise 8, part: no such REINSURER ahead of PARTS above 100 together",
            "part(1, 6, 100) -> index; part(1, -1, 100) -> index; part(0, 6, 11) -> index; part(0, 5, 11) -> state");
        s.runIn(Worlds.SOME, "promise 9, retro: no such REINSURER, of either, ahead of both the same or out of range", """
            retro(6, 6, 0, 0) -> index; retro(-1, -1, 0, 5) -> index; retro(6, 0, -1, 0) -> index
            retro(6, 0, 0, -1) -> index; retro(0, 6, 1000000, 0) -> index; retro(0, -1, 0, 1000000) -> index
            retro(MAX, MAX, MAX, MAX) -> index; retro(2, 2, 0, 5) -> argument; retro(2, 2, 0, 0) -> argument
            retro(2, 2, -1, -1) -> argument; retro(0, 0, 0, 5) -> argument; retro(5, 5, 0, 5) -> argument
            """);
    }

    private static void addStations(Suite s) {
        s.runIn(Worlds.FULL, "promise 10, station: out of range ahead of 6 STATIONS",
            "station(-1) -> argument; station(16) -> argument; station(0) -> state");
        s.runIn(Worlds.FULL, "promise 11, reading: no such STATION ahead of out of range, and of 60 READINGS", """
            reading(6, 0, 0, 0) -> index; reading(-1, 0, 0, 0) -> index; reading(6, -1, 3, 10) -> index
            reading(MAX, MAX, MAX, MAX) -> index
            """);
        s.runIn(Worlds.FULL, "promise 11, reading: out of range ahead of 60 READINGS", """
            reading(0, -1, 0, 0) -> argument; reading(0, 2200, 0, 0) -> argument; reading(0, 0, -1, 0) -> argument
            reading(0, 0, 3, 0) -> argument; reading(0, 0, 0, -1) -> argument; reading(0, 0, 0, 10) -> argument
            reading(0, 0, 0, 0) -> state
            """);
        s.runIn(Worlds.SOME, "promise 11, reading: no such STATION ahead of out of range", """
            reading(3, -1, 0, 0) -> index; reading(3, 0, 3, 0) -> index; reading(-1, 0, 0, 10) -> index
            """);
        s.runIn(Worlds.SOME, "promise 12, fails: no such STATION ahead of hour out of range",
            "fails(3, -1) -> index; fails(-1, 2200) -> index; fails(MIN, MIN) -> index");
        s.runIn(Worlds.SOME, "promise 12, fails: hour out of range ahead of what was told of it before", """
            fails(1, -1) -> argument; fails(1, 2200) -> argument; fails(1, 0) -> state; fails(1, 25) -> state
            fails(1, 2199) -> state
            """);
    }

    private static void addBonds(Suite s) {
        s.runIn(Worlds.FULL, "promise 13, bond: out of range ahead of 5 BONDS", """
            bond(0, 0, 1, 0, 9, 1, 1) -> argument; bond(1000000, 0, 1, 0, 9, 1, 1) -> argument
            bond(1, -1, 1, 0, 9, 1, 1) -> argument; bond(1, 3, 1, 0, 9, 1, 1) -> argument
            bond(1, 0, 0, 0, 9, 1, 1) -> argument; bond(1, 0, 65536, 0, 9, 1, 1) -> argument
            bond(1, 0, 1, -1, 9, 1, 1) -> argument; bond(1, 0, 1, 10, 9, 1, 1) -> argument
            bond(1, 0, 1, 0, 2200, 1, 1) -> argument; bond(1, 0, 1, 0, 9, 0, 1) -> argument
            bond(1, 0, 1, 0, 9, 10, 1) -> argument; bond(1, 0, 1, 0, 9, 1, 0) -> argument
            bond(1, 0, 1, 0, 9, 1, 101) -> argument; bond(1, 0, 1, 0, 9, 1, 1) -> state
            """);
        s.runIn(Worlds.SOME, "promise 13, bond: out of range ahead of a last HOUR that has passed", """
            bond(0, 0, 1, 0, 39, 1, 1) -> argument; bond(1, 3, 1, 0, 39, 1, 1) -> argument
            bond(1, 0, 0, 0, 39, 1, 1) -> argument; bond(1, 0, 1, -1, 39, 1, 1) -> argument
            bond(1, 0, 1, 0, -1, 1, 1) -> argument; bond(1, 0, 1, 39, 38, 1, 1) -> argument
            bond(1, 0, 1, 0, 39, 10, 1) -> argument; bond(1, 0, 1, 0, 39, 1, 101) -> argument
            bond(1, 0, 1, 0, 39, 1, 1) -> state
            """);
        s.runIn(Worlds.FULL, "promise 13, bond: 5 BONDS and a last HOUR that has passed are one exception",
            "pass(1); bond(1, 0, 1, 0, 0, 1, 1) -> state; bond(1, 0, 1, 0, 1, 1, 1) -> state");
        s.runIn(Worlds.SOME, "promise 14, extend: no such BOND ahead of hours out of range",
            "extend(3, 0) -> index; extend(3, 501) -> index; extend(-1, MIN) -> index; extend(MAX, MAX) -> index");
        s.runIn(Worlds.SOME, "promise 14, extend: hours out of range ahead of what was extended",
            "extend(1, 0) -> argument; extend(1, 501) -> argument; extend(1, MIN) -> argument; extend(1, 1) -> state");
        s.runIn(Worlds.SOME, "promise 14, extend: hours out of range ahead of what is not in TRUST any more", """
            pass(21); extend(0, 0) -> argument; extend(0, 501) -> argument; extend(0, -1) -> argument
            extend(0, 500) -> state
            """);
        s.runIn(Worlds.SOME, "promise 15, pass: hours out of range ahead of what would be above 2199", """
            pass(500); pass(500); pass(500); pass(500); pass(159) -> 2199; pass(0) -> argument; pass(501) -> argument
            pass(-1) -> argument; pass(MAX) -> argument; pass(MIN) -> argument; pass(1) -> state; pass(500) -> state
            hour() -> 2199
            """);
        s.runIn(Worlds.FULL, "promise 16, scenario: no such MODEL ahead of out of range", """
            scenario(3, 0, 0) -> index; scenario(-1, 100, 0) -> index; scenario(3, 1, -1) -> index
            scenario(MAX, 1, 1000000) -> index; scenario(3, 1, 1) -> index
            """);
        s.runIn(Worlds.FULL, "promise 16, scenario: out of range ahead of 12 SCENARIOS", """
            scenario(0, 0, 0) -> argument; scenario(1, 100, 0) -> argument; scenario(2, 1, -1) -> argument
            scenario(0, 1, 1000000) -> argument; scenario(0, 1, 1) -> state
            """);
    }

    private static void addQuestions(Suite s) {
        s.runIn(Worlds.SOME, "promise 17, occurrence: no such OCCURRENCE ahead of what out of range", """
            occurrence(2, -1) -> index; occurrence(2, 6) -> index; occurrence(-1, 6) -> index
            occurrence(MIN, MAX) -> index
            """);
        s.runIn(Worlds.SOME, "promise 18, hit: no such LAYER or OCCURRENCE ahead of what out of range", """
            hit(2, 0, 5) -> index; hit(0, 2, 5) -> index; hit(-1, 0, -1) -> index; hit(0, -1, -1) -> index
            hit(2, 2, 5) -> index; hit(MAX, MIN, MAX) -> index; hit(1, 1, 5) -> argument
            """);
        s.runIn(Worlds.SOME, "promise 20, reinsurer: no such REINSURER ahead of what out of range", """
            reinsurer(6, -1) -> index; reinsurer(6, 3) -> index; reinsurer(-1, 3) -> index
            reinsurer(MAX, MIN) -> index
            """);
        s.runIn(Worlds.FULL, "promise 23, bestAnew: peril out of range, where those in range are at more than 7 HOURS",
            "bestAnew(-1) -> argument; bestAnew(3) -> argument; bestAnew(0) -> state; bestAnew(2) -> state");
        s.runIn(Worlds.SOME, "promise 24, ofBond: no such BOND ahead of what out of range",
            "ofBond(3, -1) -> index; ofBond(3, 6) -> index; ofBond(-1, 6) -> index; ofBond(MIN, MAX) -> index");
        s.runIn(Worlds.SOME, "promise 26, price: no such LAYER or MODEL ahead of a MODEL without SCENARIOS", """
            price(2, 1) -> index; price(-1, 1) -> index; price(0, 3) -> index; price(0, -1) -> index
            price(MAX, MIN) -> index; price(0, 1) -> state; price(1, 1) -> state
            """);
        s.runIn(Worlds.SOME, "promise 27, tail: no such LAYER or MODEL ahead of percent out of range", """
            tail(2, 0, 100) -> index; tail(-1, 0, -1) -> index; tail(0, 3, 100) -> index; tail(0, -1, -1) -> index
            """);
        s.runIn(Worlds.SOME, "promise 27, tail: no such LAYER ahead of a MODEL without SCENARIOS, and of all three",
            "tail(2, 1, 0) -> index; tail(-1, 1, 99) -> index; tail(2, 1, 100) -> index; tail(-1, 1, -1) -> index");
        s.runIn(Worlds.SOME, "promise 27, tail: percent out of range ahead of a MODEL without SCENARIOS", """
            tail(0, 1, 100) -> argument; tail(0, 1, -1) -> argument; tail(1, 1, MAX) -> argument
            tail(0, 1, 99) -> state
            """);
    }
}
