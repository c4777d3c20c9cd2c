/** Promises 10 to 15, 24, 25 and 29: STATIONS, READINGS, BONDS and HOURS, and what "Terms" says of them. */
final class BondTests {
    private BondTests() {
    }

    static void addTo(Suite s) {
        addStations(s);
        addFailing(s);
        addTelling(s);
        addExtending(s);
        addHours(s);
        addIndex(s);
        addFailed(s);
        addNearest(s);
        s.test("Terms: CELLS in four rows of four: the nearest of two STATIONS to a BOX of each CELL", BondTests::nearestOfAll);
        addPayout(s);
        addTrust(s);
        addBasis(s);
    }

    private static void addStations(Suite s) {
        s.run("promise 10: returns its number, also of several in one CELL",
            "station(15) -> 0; station(15) -> 1; station(0) -> 2; station(16) -> argument; station(15) -> 3");
        s.run("promise 10, `cell`: 0 to 15: READINGS of STATIONS in the first and the last CELL count in their BOX", """
            station(0); station(15); reading(0, 5, 0, 3); reading(1, 5, 0, 4); bond(9, 0, 1, 0, 9, 1, 1)
            bond(9, 0, 32768, 0, 9, 1, 1); bond(9, 0, 65535, 0, 9, 1, 1); bond(9, 0, 32769, 0, 9, 1, 1)
            ofBond(0, 0) -> 3; ofBond(1, 0) -> 4; ofBond(2, 0) -> 4; ofBond(3, 0) -> 4; ofBond(0, 5) -> -1; ofBond(1, 5) -> -1
            """);
        s.run("promise 11: returns how many there are then, of all STATIONS", """
            station(0); station(1); reading(0, 0, 0, 0) -> 1; reading(1, 2199, 2, 9) -> 2
            reading(0, 0, 0, 10) -> argument; reading(0, 0, 0, 0) -> 3
            """);
        s.run("promise 11, `strength`: 0 to 9: both count as they are", """
            station(0); bond(9, 1, 1, 0, 2199, 9, 100); reading(0, 2199, 1, 0); ofBond(0, 0) -> 0
            reading(0, 0, 1, 9); ofBond(0, 0) -> 9; ofBond(0, 1) -> 9
            """);
    }

    private static void addFailing(Suite s) {
        s.run("Terms: its READINGS of that HOUR, or of later ones, do not count; promise 12: how many count still", """
            station(0); station(1); reading(0, 10, 0, 1); reading(0, 11, 1, 0); reading(0, 12, 2, 1); reading(0, 13, 2, 1)
            reading(1, 1, 0, 1); fails(0, 12) -> 2; fails(1, 2) -> 1
            """);
        s.run("promise 12: it fails from the HOUR 0 on: none count; from 2199 on: all but those of the last HOUR", """
            station(0); station(1); reading(0, 0, 0, 1); reading(0, 2199, 0, 1); reading(1, 0, 0, 1); reading(1, 2198, 0, 1)
            reading(1, 2199, 0, 1); fails(0, 0) -> 0; fails(1, 2199) -> 2
            """);
        s.run("Terms: whenever they were told, behind that too", """
            station(0); station(0); bond(9, 0, 1, 0, 99, 1, 1); fails(0, 50) -> 0; reading(0, 50, 0, 9) -> 1
            ofBond(0, 0) -> 0; reading(0, 49, 0, 4) -> 2; ofBond(0, 0) -> 4; reading(0, 99, 0, 8) -> 3; ofBond(0, 0) -> 4
            """);
        s.run("promise 12: it was told of it before: for good, from the least HOUR and from the greatest one too", """
            station(0); station(0); fails(0, 0) -> 0; fails(1, 2199) -> 0; fails(0, 0) -> state; fails(0, 2199) -> state
            fails(1, 0) -> state; fails(1, 2199) -> state; station(0) -> 2; fails(2, 7) -> 0
            """);
        s.run("Terms: a STATION fails at an HOUR to come, or that has passed", """
            station(0); station(0); bond(9, 0, 1, 0, 99, 1, 1); reading(0, 70, 0, 5); reading(1, 10, 0, 4)
            fails(0, 70) -> 0; ofBond(0, 0) -> 4; pass(90); fails(1, 10) -> 0; ofBond(0, 0) -> 0
            """);
    }

    private static void addTelling(Suite s) {
        s.run("promise 13: returns its number; a BOND of the least and of the greatest numbers", """
            bond(1, 0, 1, 0, 0, 1, 1) -> 0; bond(999999, 2, 65535, 2199, 2199, 9, 100) -> 1
            bond(0, 0, 1, 0, 0, 1, 1) -> argument; bond(1, 0, 1, 0, 0, 1, 1) -> 2
            """);
        s.run("promise 13: the last HOUR has passed: not in it, but behind it", """
            pass(10); bond(1, 0, 1, 0, 9, 1, 1) -> state; bond(1, 0, 1, 0, 0, 1, 1) -> state; bond(1, 0, 1, 0, 10, 1, 1) -> 0
            bond(1, 0, 1, 10, 10, 1, 1) -> 1; ofBond(0, 2) -> 1; pass(1); bond(1, 0, 1, 0, 10, 1, 1) -> state
            bond(1, 0, 1, 0, 11, 1, 1) -> 2; ofBond(0, 2) -> 0
            """);
        s.run("promise 13, `last`: the last one, not below the first one",
            """
            bond(1, 0, 1, 6, 5, 1, 1) -> argument; bond(1, 0, 1, 2199, 0, 1, 1) -> argument
            bond(1, 0, 1, MAX, MIN, 1, 1) -> argument; bond(1, 0, 1, MIN, MAX, 1, 1) -> argument
            bond(1, 0, 1, 5, 5, 1, 1) -> 0; bond(1, 0, 1, 0, 2199, 1, 1) -> 1
            """);
        s.run("promise 13, `box`: 1 to 65535: the bit k for the CELL k, no other bits", """
            bond(1, 0, 65536, 0, 9, 1, 1) -> argument; bond(1, 0, 65537, 0, 9, 1, 1) -> argument
            bond(1, 0, -65535, 0, 9, 1, 1) -> argument; bond(1, 0, 131071, 0, 9, 1, 1) -> argument
            bond(1, 0, 0, 0, 9, 1, 1) -> argument; bond(1, 0, 32768, 0, 9, 1, 1) -> 0
            """);
    }

    private static void addExtending(Suite s) {
        s.run("promise 14: returns the HOUR to which it is extended; it can come to be beyond 2199", """
            bond(9, 0, 1, 0, 2199, 9, 10); bond(9, 0, 1, 0, 2199, 9, 10); bond(9, 0, 1, 0, 50, 9, 10)
            bond(9, 0, 1, 0, 0, 9, 10); extend(0, 500) -> 2699; extend(1, 1) -> 2200; extend(2, 500) -> 550
            extend(3, 1) -> 1; pass(500); pass(500); pass(500); pass(500); pass(199); ofBond(0, 2) -> 1; ofBond(1, 2) -> 1
            ofBond(2, 2) -> 0
            """);
        s.run("promise 14: once, by the least and the greatest number of HOURS", """
            bond(9, 0, 1, 0, 50, 9, 10); bond(9, 0, 1, 0, 50, 9, 10); extend(0, 1) -> 51; extend(0, 1) -> state
            extend(0, 500) -> state; extend(1, 500) -> 550; extend(1, 1) -> state; extend(1, 500) -> state; pass(51)
            ofBond(0, 2) -> 1; extend(0, 1) -> state; pass(1); ofBond(0, 2) -> 0; ofBond(1, 2) -> 1; extend(0, 1) -> state
            """);
        s.run("promise 14: while it is in TRUST: in the last HOUR of its term, and not behind it", """
            bond(9, 0, 1, 0, 50, 9, 10); bond(9, 0, 1, 0, 50, 9, 10); pass(50); extend(0, 1) -> 51; pass(1)
            ofBond(0, 2) -> 1; ofBond(1, 2) -> 0; extend(1, 1) -> state; extend(1, 500) -> state; extend(0, 1) -> state
            """);
        s.run("promise 14: there is no such BOND behind the last one", """
            extend(0, 1) -> index; bond(9, 0, 1, 0, 50, 9, 10); extend(1, 1) -> index; extend(-1, 1) -> index
            extend(0, 1) -> 51
            """);
    }

    private static void addHours(Suite s) {
        s.run("promises 15 and 29: returns the HOUR then; the HOUR", """
            hour() -> 0; pass(1) -> 1; hour() -> 1; pass(500) -> 501; hour() -> 501; pass(0) -> argument
            pass(501) -> argument; hour() -> 501
            """);
        s.run("promise 15: it would be above 2199: by one, by more; to 2199 itself is taken", """
            pass(500); pass(500); pass(500); pass(500) -> 2000; pass(200) -> state; pass(500) -> state; pass(198) -> 2198
            pass(2) -> state; pass(1) -> 2199; hour() -> 2199; pass(1) -> state; hour() -> 2199
            """);
        s.run("promise 15: from 1699 on by 500 to the last HOUR, from 1700 on not",
            "pass(500); pass(500); pass(500); pass(199); pass(500) -> 2199; pass(1) -> state");
        s.run("promise 15: 500 HOURS from 1700 on would be above 2199",
            "pass(500); pass(500); pass(500); pass(200) -> 1700; pass(500) -> state; pass(499) -> 2199");
    }

    private static void addIndex(Suite s) {
        s.run("Terms: the greatest strength of READINGS in its term, from one HOUR to another one, both with it", """
            station(5); bond(9, 1, 32, 100, 200, 1, 1); reading(0, 99, 1, 9); reading(0, 201, 1, 9); ofBond(0, 0) -> 0
            reading(0, 150, 1, 1); ofBond(0, 0) -> 1; reading(0, 100, 1, 2); ofBond(0, 0) -> 2; reading(0, 200, 1, 4)
            ofBond(0, 0) -> 4; reading(0, 150, 1, 3); ofBond(0, 0) -> 4
            """);
        s.run("Terms: a term of one HOUR, the first and the last of all", """
            station(0); bond(9, 0, 1, 0, 0, 1, 1); bond(9, 0, 1, 2199, 2199, 1, 1); reading(0, 1, 0, 9); reading(0, 2198, 0, 9)
            ofBond(0, 0) -> 0; ofBond(1, 0) -> 0; reading(0, 0, 0, 3); reading(0, 2199, 0, 4); ofBond(0, 0) -> 3
            ofBond(1, 0) -> 4
            """);
        s.run("Terms: READINGS of its PERIL, of no other one", """
            station(0); bond(9, 0, 1, 0, 9, 1, 1); bond(9, 1, 1, 0, 9, 1, 1); bond(9, 2, 1, 0, 9, 1, 1); reading(0, 5, 0, 3)
            reading(0, 5, 1, 4); reading(0, 5, 2, 5); ofBond(0, 0) -> 3; ofBond(1, 0) -> 4; ofBond(2, 0) -> 5
            """);
        s.run("Terms: of STATIONS in its BOX, of all of them, and of no other ones", """
            station(5); station(6); station(0); bond(9, 0, 96, 0, 9, 1, 1); bond(9, 0, 1, 0, 9, 1, 1)
            reading(2, 5, 0, 9); ofBond(0, 0) -> 0; ofBond(0, 5) -> -1; reading(0, 5, 0, 3); reading(1, 5, 0, 4)
            ofBond(0, 0) -> 4; ofBond(1, 0) -> 9
            """);
        s.run("Terms: READINGS at HOURS to come count; the term of a BOND that begins in what has passed", """
            station(0); reading(0, 2, 0, 6); pass(5); bond(9, 0, 1, 0, 9, 1, 1); ofBond(0, 0) -> 6
            reading(0, 9, 0, 7); ofBond(0, 0) -> 7
            """);
        s.run("Terms: READINGS are kept, at most 60: the last one counts", "station(0); bond(9, 0, 1, 0, 2199, 1, 10);"
            + Worlds.times(59, "reading(0, #, 0, 1)") + "ofBond(0, 0) -> 1; reading(0, 2199, 0, 9) -> 60; ofBond(0, 0) -> 9; fails(0, 2199) -> 59");
    }

    private static void addFailed(Suite s) {
        s.run("Terms: all have failed by the last HOUR of the term: from it on", """
            station(0); station(1); bond(9, 0, 1, 0, 100, 1, 1); reading(0, 99, 0, 4); reading(1, 100, 0, 8)
            ofBond(0, 0) -> 4; fails(0, 100) -> 1; ofBond(0, 0) -> 8; ofBond(0, 5) -> 1
            """);
        s.run("Terms: all have failed by the last HOUR of the term: not if it is from the HOUR behind it on", """
            station(0); station(1); bond(9, 0, 1, 0, 100, 1, 1); reading(0, 100, 0, 4); reading(1, 100, 0, 8)
            fails(0, 101) -> 1; ofBond(0, 0) -> 4; ofBond(0, 5) -> -1
            """);
        s.run("Terms: all have failed by the last HOUR of the term: or from an earlier one on, as told by now", """
            station(0); station(1); bond(9, 0, 1, 50, 100, 1, 1); reading(0, 60, 0, 4); reading(1, 100, 0, 8)
            fails(0, 0) -> 0; ofBond(0, 0) -> 8; ofBond(0, 5) -> 1
            """);
        s.run("Terms: if one of several in the BOX has not failed by then, it goes by those in it, by what counts", """
            station(0); station(0); station(1); bond(9, 0, 1, 0, 100, 1, 1); reading(0, 49, 0, 5); reading(0, 50, 0, 6)
            reading(1, 60, 0, 1); reading(2, 60, 0, 3); ofBond(0, 0) -> 6; fails(0, 50) -> 1; ofBond(0, 0) -> 5
            ofBond(0, 5) -> -1; fails(1, 100) -> 1; ofBond(0, 0) -> 3; ofBond(0, 5) -> 2; fails(2, 100) -> 1
            ofBond(0, 0) -> 5; ofBond(0, 5) -> -1
            """);
        s.run("Terms: the nearest that has not failed by then: those that have are passed over", """
            station(1); station(2); station(3); bond(9, 0, 1, 0, 100, 1, 1); reading(0, 10, 0, 4); reading(1, 10, 0, 5)
            reading(2, 10, 0, 6); reading(2, 101, 0, 9); ofBond(0, 5) -> 0; ofBond(0, 0) -> 4; fails(0, 100); ofBond(0, 5) -> 1
            ofBond(0, 0) -> 5; fails(1, 0); ofBond(0, 5) -> 2; fails(2, 101); ofBond(0, 5) -> 2; ofBond(0, 0) -> 6
            station(0); ofBond(0, 5) -> -1; ofBond(0, 0) -> 0
            """);
        s.run("Terms: READINGS of the nearest count by PERIL and term as well", """
            station(1); bond(9, 0, 1, 10, 20, 1, 1); reading(0, 9, 0, 9); reading(0, 21, 0, 9); reading(0, 15, 1, 9)
            ofBond(0, 0) -> 0; reading(0, 10, 0, 2); ofBond(0, 0) -> 2; reading(0, 20, 0, 3); ofBond(0, 0) -> 3
            ofBond(0, 5) -> 0
            """);
        s.run("Terms: by the last HOUR of each term for itself", """
            station(0); station(1); bond(9, 0, 1, 0, 49, 1, 1); bond(9, 0, 1, 0, 50, 1, 1); reading(0, 10, 0, 3)
            reading(1, 10, 0, 4); fails(0, 50) -> 1; ofBond(0, 0) -> 3; ofBond(0, 5) -> -1; ofBond(1, 0) -> 4; ofBond(1, 5) -> 1
            """);
    }

    private static void addNearest(Suite s) {
        s.run("Terms: there is no STATION in the BOX: that with the least number of rows and columns, of several the lowest", """
            bond(9, 0, 1, 0, 100, 1, 10); ofBond(0, 5) -> -1; station(15); bond(9, 0, 520, 0, 100, 1, 10)
            bond(9, 0, 4096, 0, 100, 1, 10); ofBond(0, 5) -> 0; station(8); ofBond(0, 5) -> 1; ofBond(1, 5) -> 1; station(3)
            ofBond(0, 5) -> 1; ofBond(1, 5) -> -1; station(5); ofBond(0, 5) -> 1; ofBond(2, 5) -> 1; station(4)
            ofBond(0, 5) -> 4; station(1); ofBond(0, 5) -> 4; reading(4, 0, 0, 2); reading(5, 0, 0, 3); reading(1, 0, 0, 9)
            ofBond(0, 0) -> 2; ofBond(2, 0) -> 9
            """);
        s.run("Terms: the farthest there is: six rows and columns, from the CELL 0 to 15 and from 3 to 12", """
            station(15); bond(9, 0, 1, 0, 9, 1, 1); reading(0, 5, 0, 6); ofBond(0, 5) -> 0; ofBond(0, 0) -> 6; station(14)
            ofBond(0, 5) -> 1; bond(9, 0, 4096, 0, 9, 1, 1); station(3); ofBond(1, 5) -> 1; bond(9, 0, 8, 0, 9, 1, 1)
            ofBond(2, 5) -> -1
            """);
        s.run("Terms: a CELL's row is its number divided by 4, its column what is left over: 3 and 4 are not next to each other", """
            station(4); station(6); bond(9, 0, 8, 0, 9, 1, 1); ofBond(0, 5) -> 1; bond(9, 0, 16384, 0, 9, 1, 1); station(11)
            ofBond(1, 5) -> 1; station(12); ofBond(1, 5) -> 1; station(13); ofBond(1, 5) -> 4
            """);
        s.run("Terms: between its CELL and one of the BOX: the nearest one of these", """
            station(0); station(15); bond(9, 0, 18432, 0, 9, 1, 1); ofBond(0, 5) -> 1; bond(9, 0, 16386, 0, 9, 1, 1)
            ofBond(1, 5) -> 0; bond(9, 0, 32766, 0, 9, 1, 1); ofBond(2, 5) -> 0; fails(0, 9); ofBond(2, 5) -> 1
            """);
    }

    private static void nearestOfAll(Suite t) {
        for (int cell = 0; cell < 16; cell++) {
            for (int a = 0; a < 16; a++) {
                for (int b = 0; b < 16; b++) {
                    int toA = Math.abs(a / 4 - cell / 4) + Math.abs(a % 4 - cell % 4);
                    int toB = Math.abs(b / 4 - cell / 4) + Math.abs(b % 4 - cell % 4);
                    int want = a == cell || b == cell ? -1 : toB < toA ? 1 : 0;
                    new Run(t).go("station(" + a + "); station(" + b + "); bond(1000, 0, " + (1 << cell)
                        + ", 0, 0, 1, 10); ofBond(0, 5) -> " + want);
                }
            }
        }
    }

    private static void addPayout(Suite s) {
        s.run("Terms: nothing, if the INDEX is below the trigger; percent times the principal, if it is the trigger; more", """
            station(0); bond(1003, 0, 1, 0, 0, 3, 33); reading(0, 0, 0, 2); ofBond(0, 0) -> 2; ofBond(0, 1) -> 0
            reading(0, 0, 0, 3); ofBond(0, 1) -> 330; reading(0, 0, 0, 4); ofBond(0, 1) -> 666; reading(0, 0, 0, 5)
            ofBond(0, 1) -> 834; reading(0, 0, 0, 6); ofBond(0, 1) -> 918; reading(0, 0, 0, 7); ofBond(0, 1) -> 960
            reading(0, 0, 0, 8); ofBond(0, 1) -> 981; reading(0, 0, 0, 9); ofBond(0, 1) -> 992
            """);
        s.run("promise 13, `trigger`: 1 to 9: just reached, and one below", """
            station(0); bond(1000, 0, 1, 0, 0, 1, 10); bond(1000, 0, 1, 0, 0, 9, 10); ofBond(0, 1) -> 0; reading(0, 0, 0, 1)
            ofBond(0, 1) -> 100; ofBond(1, 1) -> 0; reading(0, 0, 0, 8); ofBond(1, 1) -> 0; reading(0, 0, 0, 9)
            ofBond(1, 1) -> 100; ofBond(0, 1) -> 996
            """);
        s.run("promise 13, `percent`: 1 to 100: of the whole principal nothing is left to add", """
            station(0); bond(999999, 0, 1, 0, 0, 1, 100); bond(999999, 0, 1, 0, 0, 1, 1); bond(99, 0, 1, 0, 0, 1, 1)
            bond(100, 0, 1, 0, 0, 1, 1); reading(0, 0, 0, 1); ofBond(0, 1) -> 999999; ofBond(1, 1) -> 9999
            ofBond(2, 1) -> 0; ofBond(3, 1) -> 1; reading(0, 0, 0, 9); ofBond(0, 1) -> 999999; ofBond(1, 1) -> 996131
            """);
        s.run("Terms: a division of units is rounded down: half of what is left, of a principal of 1 and of 2", """
            station(0); bond(1, 0, 1, 0, 0, 1, 99); bond(2, 0, 1, 0, 0, 1, 49); bond(3, 0, 1, 0, 0, 1, 1); reading(0, 0, 0, 1)
            ofBond(0, 1) -> 0; ofBond(1, 1) -> 0; reading(0, 0, 0, 2); ofBond(0, 1) -> 0; ofBond(1, 1) -> 1
            ofBond(2, 1) -> 1; reading(0, 0, 0, 9); ofBond(0, 1) -> 0; ofBond(1, 1) -> 1; ofBond(2, 1) -> 2
            """);
    }

    private static void addTrust(Suite s) {
        s.run("Terms: in TRUST as long as it is not later than the last HOUR; then the PAYOUT is PAID, the rest FREE", """
            station(0); bond(1000, 0, 1, 10, 20, 5, 40); reading(0, 15, 0, 5); ofBond(0, 2) -> 1; pass(20); ofBond(0, 1) -> 400
            ofBond(0, 2) -> 1; ofBond(0, 3) -> 0; ofBond(0, 4) -> 0; pass(1); ofBond(0, 2) -> 0; ofBond(0, 3) -> 400
            ofBond(0, 4) -> 600; ofBond(0, 1) -> 400
            """);
        s.run("Terms: or, if it was extended, than the HOUR to which it was", """
            station(0); bond(1000, 0, 1, 10, 20, 5, 40); reading(0, 15, 0, 5); extend(0, 7) -> 27; pass(21); ofBond(0, 2) -> 1
            pass(6) -> 27; ofBond(0, 2) -> 1; ofBond(0, 3) -> 0; ofBond(0, 4) -> 0; pass(1); ofBond(0, 2) -> 0
            ofBond(0, 3) -> 400; ofBond(0, 4) -> 600
            """);
        s.run("Terms: to extend does not change the term: for READINGS, nor for STATIONS that fail", """
            station(0); station(1); bond(1000, 0, 1, 0, 50, 1, 10); reading(0, 51, 0, 9); reading(1, 50, 0, 7)
            extend(0, 500); ofBond(0, 0) -> 0; fails(0, 51); ofBond(0, 0) -> 0; ofBond(0, 5) -> -1; reading(0, 50, 0, 2)
            ofBond(0, 0) -> 2
            """);
        s.run("promise 24: by what is told by now, also behind the TRUST", """
            station(0); station(1); bond(1000, 0, 1, 10, 20, 5, 40); reading(0, 15, 0, 5); pass(21); ofBond(0, 3) -> 400
            reading(0, 15, 0, 6); ofBond(0, 3) -> 700; ofBond(0, 4) -> 300; reading(1, 20, 0, 4); fails(0, 15)
            ofBond(0, 0) -> 4; ofBond(0, 3) -> 0; ofBond(0, 4) -> 1000; ofBond(0, 5) -> 1
            """);
        s.run("Terms: PAID is all and FREE is nothing where the PAYOUT is the principal; the other way round without one", """
            station(0); bond(7, 0, 1, 0, 0, 9, 100); bond(7, 1, 1, 0, 0, 9, 100); reading(0, 0, 0, 9); reading(0, 0, 1, 8)
            pass(1); ofBond(0, 3) -> 7; ofBond(0, 4) -> 0; ofBond(1, 3) -> 0; ofBond(1, 4) -> 7
            """);
        s.runIn(Worlds.SOME, "promise 24: `what`: 0 its INDEX to 5 the STATION nearest to its BOX by which it goes", """
            ofBond(0, 0) -> 7; ofBond(0, 1) -> 925; ofBond(0, 2) -> 1; ofBond(0, 3) -> 0; ofBond(0, 4) -> 0; ofBond(0, 5) -> -1
            ofBond(1, 0) -> 4; ofBond(1, 1) -> 500; ofBond(1, 2) -> 1; ofBond(1, 5) -> -1; ofBond(2, 0) -> 5
            ofBond(2, 1) -> 0; ofBond(2, 2) -> 1; ofBond(2, 5) -> 0; pass(20); ofBond(0, 2) -> 1; pass(1); ofBond(0, 2) -> 0
            ofBond(0, 3) -> 925; ofBond(0, 4) -> 75; pass(49); ofBond(1, 2) -> 1; pass(1); ofBond(1, 2) -> 0
            ofBond(1, 3) -> 500; ofBond(1, 4) -> 0; ofBond(2, 2) -> 1
            """);
    }

    private static void addBasis(Suite s) {
        s.run("promise 25: how much PAYOUTS of all BONDS are more than what the insurer keeps of it all, below 0 if less", """
            station(0); bond(1000, 0, 1, 0, 20, 5, 40); bond(500, 0, 1, 0, 20, 5, 100); bond(500, 1, 1, 0, 20, 5, 100)
            basis() -> 0; loss(0, 0, 900); basis() -> -900; reading(0, 0, 0, 5); basis() -> 0; creep(0, 899); basis() -> 1
            creep(0, 901); basis() -> -1; creep(0, 600); basis() -> 300; pass(21); basis() -> 300
            layer(0, 100, 100, 1, 70, 100); choose(0, 0, 0); basis() -> 230; part(0, 3, 100); basis() -> 330
            quota(10); basis() -> 390
            """);
        s.run("promise 25: PAYOUTS of all five BONDS, in TRUST or not", "station(0); reading(0, 3, 0, 1);"
            + Worlds.times(5, "bond(10#, 0, 1, 0, #3, 1, 100)") + "basis() -> 510; pass(30); basis() -> 510; ofBond(2, 2) -> 0; ofBond(3, 2) -> 1");
        s.runIn(Worlds.SOME, "promise 25: of several of everything", "basis() -> 783");
    }
}
