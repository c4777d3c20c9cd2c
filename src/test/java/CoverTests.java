/** Promises 6 to 9: QUOTA, LAYERS, PARTS and RETROS are told. */
final class CoverTests {
    private CoverTests() {
    }

    static void addTo(Suite s) {
        s.run("promise 6: returns the one before; a QUOTA is 0 at first", """
            quota(90) -> 0; quota(33) -> 90; quota(0) -> 33; quota(0) -> 0; quota(1) -> 0; quota(91) -> argument
            quota(2) -> 1
            """);
        s.run("Terms: QUOTA times its GROUND, divided by 100, rounded down; the rest is its NET", """
            loss(0, 0, 99); choose(0, 0, 0); quota(1); occurrence(0, 1) -> 0; occurrence(0, 2) -> 99; creep(0, 100)
            occurrence(0, 1) -> 1; occurrence(0, 2) -> 99; creep(0, 199); occurrence(0, 1) -> 1; occurrence(0, 2) -> 198
            quota(90); occurrence(0, 1) -> 179; occurrence(0, 2) -> 20; creep(0, 1); occurrence(0, 1) -> 0
            occurrence(0, 2) -> 1; creep(0, 2); occurrence(0, 1) -> 1; creep(0, 0); occurrence(0, 1) -> 0
            occurrence(0, 2) -> 0; creep(0, 99999); occurrence(0, 1) -> 89999; quota(0); occurrence(0, 1) -> 0
            occurrence(0, 2) -> 99999
            """);
        s.run("Terms: a QUOTA is taken off each OCCURRENCE, rounded for each, and none off LOSSES in no OCCURRENCE", """
            quota(50); loss(0, 0, 1); loss(0, 1, 1); loss(0, 2, 3); loss(0, 3, 1000); choose(0, 0, 0); choose(0, 1, 1)
            choose(0, 2, 2); sum(2) -> 1; reinsurer(0, 0) -> 1; sum(6) -> 1004; unchoose(); sum(2) -> 0
            choose(0, 2, 3); sum(2) -> 501
            """);
        s.run("promise 7: returns its number; LAYERS are numbered from 0, the same again is another one", """
            layer(0, 1, 1, 0, 0, 0) -> 0; layer(999999, 999999, 100, 3, 99999, 150) -> 1; layer(5, 6, 7, 1, 8, 9) -> 2
            layer(5, 6, 7, 1, 8, 9) -> 3; layer(-1, 6, 7, 1, 8, 9) -> argument; layer(5, 6, 7, 1, 8, 9) -> 4
            """);
        s.run("promise 7: a LAYER of the least numbers", """
            layer(0, 1, 1, 0, 0, 0); layer(0, 1, 100, 0, 0, 0); loss(0, 0, 1); choose(0, 0, 0); hit(0, 0, 0) -> 1
            hit(0, 0, 1) -> 0; hit(0, 0, 2) -> 0; hit(0, 0, 3) -> 0; hit(0, 0, 4) -> 0; hit(1, 0, 1) -> 1
            """);
        s.run("promise 8: returns how much of the LAYER is not placed then, in percent", """
            layer(0, 100, 100, 0, 0, 0); layer(0, 100, 100, 0, 0, 0); loss(0, 0, 100); choose(0, 0, 0)
            part(0, 0, 30) -> 70; part(0, 5, 70) -> 0; part(1, 3, 100) -> 0; part(0, 0, 5) -> 25; part(0, 5, 95) -> 0
            part(0, 0, 0) -> 5; part(0, 1, 0) -> 5; reinsurer(0, 0) -> 0; reinsurer(5, 0) -> 95
            reinsurer(3, 0) -> 100; reinsurer(1, 0) -> 0
            """);
        s.run("promise 8: there is no such LAYER ahead of the first one, or behind the last one", """
            part(0, 0, 0) -> index; layer(0, 1, 1, 0, 0, 0); part(0, 0, 0) -> 100; part(1, 0, 0) -> index
            part(-1, 0, 0) -> index
            """);
        s.run("promise 9: returns the DEPTH of the one before, 0 if there was none", """
            retro(0, 1, 0, 5) -> 0; retro(0, 2, 999999, 999999) -> 5; retro(0, 1, 0, 0) -> 999999; retro(0, 1, 5, 0) -> 0
            retro(0, 5, 7, 1) -> 0; retro(0, 5, 7, 0) -> 1; retro(5, 0, 0, 3) -> 0; retro(5, 4, 0, 3) -> 3
            """);
        s.run("promise 9: both are the same, for each REINSURER, also if it would be no RETRO",
            Worlds.times(6, "retro(#, #, 0, 1) -> argument; retro(#, #, 0, 0) -> argument") + "retro(5, 4, 0, 1) -> 0; retro(4, 5, 0, 1) -> 0");
        s.run("promise 9: floor does not matter for no RETRO, but is in its range", """
            retro(0, 1, 0, 5) -> 0; retro(0, 1, -1, 0) -> argument; retro(0, 1, 1000000, 0) -> argument
            retro(0, 1, 999999, 0) -> 5; retro(0, 1, 0, -1) -> argument; retro(0, 1, 0, 1000000) -> argument
            """);
        s.run("Terms: QUOTA, LAYERS, PARTS and RETROS that are told behind all else count for it", """
            loss(0, 0, 1000); choose(0, 0, 0); sum(6) -> 1000; quota(10) -> 0; sum(6) -> 900
            layer(100, 400, 50, 1, 30, 100) -> 0; sum(3) -> 200; sum(5) -> 30; sum(6) -> 930; part(0, 1, 50) -> 50
            sum(6) -> 830; reinsurer(1, 0) -> 100; retro(1, 2, 40, 50) -> 0; reinsurer(2, 1) -> 50; reinsurer(1, 2) -> 50
            """);
    }
}
