/** What is asked and told while there is none of a thing, or none of it left. */
final class NoneTests {
    private NoneTests() {
    }

    static void addTo(Suite s) {
        addNew(s);
        addNothingOf(s);
        addNoneLeft(s);
    }

    private static void addNew(Suite s) {
        s.run("promise 1: no LOSSES",
            Worlds.times(8, "sum(#) -> 0") + Worlds.times(3, "best(#) -> 0; bestAnew(#) -> 0") + "creep(0, 0) -> index; loss(0, 0, 0) -> 0");
        s.run("promise 1: no covers: no LAYERS, no QUOTA, no PARTS, no RETROS",
            "part(0, 0, 0) -> index; price(0, 0) -> index; tail(0, 0, 0) -> index; dearest(0, false) -> index; dearest(0, true) -> index;"
                + "quota(0) -> 0; layer(0, 1, 1, 0, 0, 0) -> 0;" + Worlds.times(6, "part(0, #, 0) -> 100")
                + "retro(0, 1, 0, 0) -> 0; retro(1, 2, 0, 0) -> 0; retro(2, 3, 0, 0) -> 0; retro(3, 4, 0, 0) -> 0"
                + "; retro(4, 5, 0, 0) -> 0; retro(5, 0, 0, 0) -> 0");
        s.run("promise 1: no OCCURRENCES; promise 5: IllegalStateException if there is none",
            "occurrence(0, 0) -> index; unchoose() -> state; choose(0, 0, 0) -> 0; hit(0, 0, 0) -> index");
        s.run("promise 18: there is no such LAYER or OCCURRENCE: neither, a LAYER alone, an OCCURRENCE alone, both", """
            hit(0, 0, 0) -> index; layer(0, 9, 100, 0, 0, 0); hit(0, 0, 0) -> index; choose(0, 0, 0)
            hit(0, 0, 4) -> 9; unchoose(); hit(0, 0, 4) -> index
            """);
        s.run("promise 1: no STATIONS, and no READINGS of them",
            "reading(0, 0, 0, 0) -> index; fails(0, 0) -> index; station(0) -> 0; reading(0, 0, 0, 0) -> 1");
        s.run("promise 1: no BONDS",
            "ofBond(0, 0) -> index; extend(0, 1) -> index; bond(1, 0, 1, 0, 0, 1, 1) -> 0");
        s.run("promise 1: no SCENARIOS; promises 26 and 27: if the MODEL has no SCENARIOS",
            "layer(0, 1, 1, 0, 0, 0);" + Worlds.times(3, "price(0, #) -> state; tail(0, #, 0) -> state; tail(0, #, 99) -> state")
                + Worlds.times(3, "scenario(#, 1, 1) -> 1"));
        s.run("promise 28: NONE if no MODEL has SCENARIOS",
            "layer(0, 9, 100, 0, 0, 0); dearest(0, false) -> -1; dearest(0, true) -> -1; scenario(2, 1, 0) -> 1"
                + "; dearest(0, false) -> 2; dearest(0, true) -> 0");
        s.run("Terms: it is HOUR 0 at first", "hour() -> 0; pass(1) -> 1; hour() -> 1");
        s.run("promises 20, 21 and 25: nothing is borne, passed on, paid or kept",
            Worlds.times(6, "reinsurer(#, 0) -> 0; reinsurer(#, 1) -> 0; reinsurer(#, 2) -> 0") + "rounds() -> 1; basis() -> 0");
    }

    private static void addNothingOf(Suite s) {
        s.run("LOSSES in no OCCURRENCE are kept; OCCURRENCES without LOSSES have a GROUND of 0",
            """
            quota(90); layer(0, 10, 100, 1, 10, 100); part(0, 1, 100); choose(0, 0, 71); choose(2, 0, 167)
            occurrence(0, 0) -> 0; occurrence(0, 1) -> 0; occurrence(0, 2) -> 0; occurrence(0, 3) -> 0
            occurrence(0, 4) -> 0; occurrence(0, 5) -> 0; occurrence(1, 5) -> 1; hit(0, 1, 0) -> 0; hit(0, 1, 1) -> 0
            hit(0, 1, 2) -> 0; hit(0, 1, 3) -> 0; hit(0, 1, 4) -> 20
            loss(0, 72, 50); loss(1, 0, 60); sum(0) -> 110; sum(1) -> 110; sum(2) -> 0; sum(6) -> 110; sum(7) -> 0
            """);
        s.run("a LOSS of 0 units is one", "loss(0, 5, 0) -> 0; choose(0, 5, 5); occurrence(0, 0) -> 0; creep(0, 9) -> 0; sum(0) -> 9");
        s.run("without LAYERS all is kept but the QUOTA; the best choice of windows pays nothing",
            """
            loss(0, 5, 100); choose(0, 5, 5); occurrence(0, 3) -> 0; occurrence(0, 4) -> 0; sum(3) -> 0; sum(6) -> 100
            best(0) -> 0; bestAnew(0) -> 0; quota(90); sum(6) -> 10; sum(7) -> 90; reinsurer(0, 0) -> 90
            """);
        s.run("PARTS are 0 at first: what none bears the insurer keeps after all", """
            loss(0, 5, 100); choose(0, 5, 5); layer(0, 60, 100, 0, 0, 0); sum(3) -> 60; sum(4) -> 60; sum(6) -> 100
            sum(7) -> 0; part(0, 2, 100) -> 0; sum(4) -> 0; sum(6) -> 40; sum(7) -> 60; part(0, 2, 0) -> 100
            sum(4) -> 60; sum(6) -> 100; reinsurer(2, 0) -> 0
            """);
        s.run("INDEX: 0 without any READINGS, or STATIONS; the PAYOUT is nothing", """
            bond(1000, 0, 1, 0, 9, 1, 100); ofBond(0, 0) -> 0; ofBond(0, 1) -> 0; ofBond(0, 5) -> -1; station(0)
            ofBond(0, 0) -> 0; ofBond(0, 1) -> 0; ofBond(0, 5) -> -1; pass(10); ofBond(0, 3) -> 0; ofBond(0, 4) -> 1000
            """);
        s.run("INDEX: a READING of strength 0 is below each trigger", """
            station(0); bond(1000, 0, 1, 0, 9, 1, 100); reading(0, 5, 0, 0) -> 1; ofBond(0, 0) -> 0
            ofBond(0, 1) -> 0
            """);
        s.run("promise 12: returns how many of its READINGS count still, of a STATION without any, or with those of others",
            "station(0); station(1); reading(1, 5, 0, 3); fails(0, 2199) -> 0; fails(1, 5) -> 0");
        s.run("promise 28: of MODELS only those with SCENARIOS come in, though one pays nothing", """
            layer(999999, 9, 100, 0, 0, 0); scenario(1, 5, 999999) -> 1; dearest(0, false) -> 1; dearest(0, true) -> 0
            scenario(2, 5, 999999); dearest(0, false) -> 1; scenario(0, 1, 0); dearest(0, false) -> 0
            """);
    }

    private static void addNoneLeft(Suite s) {
        s.run("promise 5: none is left behind the last one, which is refused then", """
            choose(0, 0, 9); choose(0, 10, 19); choose(0, 20, 29); unchoose() -> 2; unchoose() -> 1; occurrence(1, 0) -> index
            unchoose() -> 0; occurrence(0, 0) -> index; unchoose() -> state; unchoose() -> state; choose(0, 5, 25) -> 0
            """);
        s.run("HIT at most what it has left: nothing behind the last of it, and nothing is paid or reinstated", """
            layer(0, 100, 100, 0, 10, 100); loss(0, 0, 100); loss(0, 1, 100); choose(0, 0, 0); choose(0, 1, 1)
            hit(0, 0, 0) -> 100; hit(0, 0, 4) -> 0; hit(0, 1, 0) -> 0; hit(0, 1, 1) -> 0; hit(0, 1, 2) -> 0
            hit(0, 1, 3) -> 0; hit(0, 1, 4) -> 0; occurrence(1, 3) -> 0; creep(0, 99); hit(0, 0, 4) -> 1; hit(0, 1, 0) -> 1
            hit(0, 1, 4) -> 0
            """);
        s.run("all STATIONS have failed: it stays as told ahead, what counts of those in the BOX", """
            station(0); station(1); bond(1000, 0, 1, 0, 9, 1, 100); reading(0, 4, 0, 6); reading(0, 5, 0, 7)
            reading(1, 0, 0, 9); fails(0, 5) -> 1; ofBond(0, 0) -> 9; ofBond(0, 5) -> 1; fails(1, 9) -> 1
            ofBond(0, 0) -> 6; ofBond(0, 5) -> -1
            """);
        s.run("the TRUST has ended: it can't be extended any more", """
            bond(1000, 0, 1, 0, 9, 1, 100); pass(10); ofBond(0, 2) -> 0; extend(0, 500) -> state
            ofBond(0, 4) -> 1000
            """);
        s.run("a RETRO of DEPTH 0 is none: nothing is left of it", """
            quota(50); loss(0, 0, 100); choose(0, 0, 0); retro(0, 1, 0, 9) -> 0; rounds() -> 2; reinsurer(1, 1) -> 9
            retro(0, 1, 0, 0) -> 9; rounds() -> 1; reinsurer(1, 1) -> 0; reinsurer(0, 2) -> 50; retro(0, 1, 0, 0) -> 0
            retro(0, 1, 0, 8) -> 0
            """);
        s.run("HOURS are up to 2199: none is left behind it", """
            pass(500); pass(500); pass(500); pass(500); pass(199) -> 2199; pass(1) -> state; pass(500) -> state
            hour() -> 2199; loss(0, 2199, 1) -> 0; choose(0, 2199, 2199) -> 0; bond(1, 0, 1, 2199, 2199, 1, 1) -> 0
            bond(1, 0, 1, 0, 2198, 1, 1) -> state; ofBond(0, 2) -> 1
            """);
    }
}
