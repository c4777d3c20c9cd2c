/** The greatest number of each thing that can be added, and one more: which is refused, and changes nothing. */
final class MostTests {
    private MostTests() {
    }

    static void addTo(Suite s) {
        s.run("LOSSES are numbered from 0, at most 40; promise 2: IllegalStateException if there are 40",
            Worlds.times(39, "loss(1, #, 99999) -> #")
                + "sum(0) -> 3899961; creep(39, 5) -> index; loss(2, 2199, 0) -> 39; creep(39, 5) -> 0; creep(40, 5) -> index"
                + "; loss(0, 0, 0) -> state; loss(2, 2199, 99999) -> state; sum(0) -> 3899966; creep(38, 1) -> 99999");
        s.run("OCCURRENCES are numbered from 0, at most 8; promise 4: IllegalStateException if there are 8",
            Worlds.times(7, "choose(0, #00, #71) -> #")
                + "occurrence(7, 0) -> index; choose(0, 700, 771) -> 7; occurrence(7, 5) -> 7; occurrence(8, 0) -> index"
                + "; choose(0, 2000, 2000) -> state; choose(1, 0, 0) -> state; choose(0, 700, 771) -> state"
                + "; unchoose() -> 7; choose(1, 0, 0) -> 7; choose(2, 0, 0) -> state");
        s.run("LAYERS are numbered from 0, at most 5; promise 7: IllegalStateException if there are 5",
            "loss(0, 0, 50); choose(0, 0, 0);" + Worlds.times(4, "layer(#, 100, 100, 0, 0, 0) -> #")
                + "hit(4, 0, 0) -> index; part(4, 0, 0) -> index; layer(4, 100, 100, 0, 0, 0) -> 4; hit(4, 0, 0) -> 46"
                + "; part(4, 0, 0) -> 100; hit(5, 0, 0) -> index; layer(0, 1, 1, 0, 0, 0) -> state; sum(3) -> 240");
        s.run("PARTS of one LAYER are 100 together at most; promise 8: if PARTS would be above 100 together",
            """
            layer(0, 100, 100, 0, 0, 0); layer(0, 100, 100, 0, 0, 0); loss(0, 0, 100); choose(0, 0, 0)
            part(0, 0, 20) -> 80; part(0, 1, 20) -> 60; part(0, 2, 20) -> 40; part(0, 3, 20) -> 20
            part(0, 4, 19) -> 1; part(0, 5, 2) -> state; part(0, 5, 1) -> 0; part(0, 4, 20) -> state
            part(0, 5, 2) -> state; part(0, 0, 100) -> state; part(1, 0, 100) -> 0; part(1, 1, 1) -> state
            part(1, 1, 0) -> 0; reinsurer(4, 0) -> 19; reinsurer(5, 0) -> 1; reinsurer(0, 0) -> 120
            """);
        s.run("promise 8: this one in place of the one before, 100 together and one more",
            """
            layer(0, 100, 100, 0, 0, 0); loss(0, 0, 100); choose(0, 0, 0)
            part(0, 2, 60) -> 40; part(0, 3, 40) -> 0; part(0, 2, 60) -> 0; part(0, 2, 61) -> state
            part(0, 3, 41) -> state; part(0, 3, 40) -> 0; part(0, 2, 59) -> 1; part(0, 3, 41) -> 0
            part(0, 3, 42) -> state; part(0, 2, 0) -> 59; part(0, 3, 100) -> 0; part(0, 2, 1) -> state
            reinsurer(3, 0) -> 100; reinsurer(2, 0) -> 0
            """);
        s.run("A REINSURER has at most one RETRO; promise 9: in place of the one that it has",
            """
            quota(90); loss(0, 0, 1000); choose(0, 0, 0); retro(0, 1, 100, 999999) -> 0; reinsurer(1, 1) -> 800
            retro(0, 2, 0, 1) -> 999999; reinsurer(1, 1) -> 0; reinsurer(2, 1) -> 1; retro(0, 2, 899, 2) -> 1
            reinsurer(2, 1) -> 1; reinsurer(0, 2) -> 899
            """);
        s.run("STATIONS are numbered from 0, at most 6; promise 10: IllegalStateException if there are 6",
            Worlds.times(5, "station(#) -> #")
                + "reading(5, 0, 0, 0) -> index; fails(5, 0) -> index; station(15) -> 5; reading(5, 0, 0, 9) -> 1"
                + "; bond(9, 0, 32768, 0, 0, 1, 1); ofBond(0, 0) -> 9; station(0) -> state; station(15) -> state"
                + "; reading(6, 0, 0, 0) -> index; fails(6, 0) -> index; fails(5, 0) -> 0; station(3) -> state");
        s.run("READINGS are kept, at most 60; promise 11: IllegalStateException if there are 60",
            "station(0); station(1); bond(9, 0, 1, 0, 2199, 1, 1); fails(1, 0);"
                + Worlds.times(59, "reading(1, #, 0, 8)")
                + "ofBond(0, 0) -> 0; reading(0, 2199, 0, 9) -> 60; ofBond(0, 0) -> 9"
                + "; reading(0, 0, 0, 0) -> state; reading(1, 2199, 2, 9) -> state; ofBond(0, 0) -> 9");
        s.run("promise 11: returns how many there are then, whether they count or not", """
            station(0); fails(0, 0); reading(0, 0, 0, 0) -> 1; reading(0, 0, 0, 0) -> 2; station(1)
            reading(1, 5, 1, 3) -> 3
            """);
        s.run("BONDS are numbered from 0, at most 5; promise 13: IllegalStateException if there are 5",
            Worlds.times(4, "bond(10, 0, 1, 0, #, 1, 100) -> #")
                + "ofBond(4, 0) -> index; extend(4, 1) -> index; bond(999999, 0, 2, 0, 2199, 1, 100) -> 4; ofBond(4, 2) -> 1"
                + "; extend(4, 1) -> 2200; ofBond(5, 0) -> index; bond(10, 0, 1, 0, 2199, 1, 1) -> state"
                + "; pass(9); bond(10, 0, 1, 9, 9, 1, 1) -> state; ofBond(4, 2) -> 1");
        for (int model = 0; model < 3; model++) {
            s.run("each MODEL with SCENARIOS, at most 12; promise 16: IllegalStateException if it has 12, " + model,
                ("layer(0, 999999, 100, 0, 0, 0);" + fill(11)
                    + "tail(0, M, 0) -> 10; scenario(M, 99, 999999) -> 12; tail(0, M, 0) -> 999999"
                    + "; scenario(M, 1, 0) -> state; scenario(M, 99, 999999) -> state").replace("M", "" + model)
                    + "; scenario(" + (model + 1) % 3 + ", 1, 8) -> 1; scenario(" + (model + 2) % 3 + ", 1, 9) -> 1"
                    + "; price(0, " + (model + 1) % 3 + ") -> 8000; price(0, " + (model + 2) % 3 + ") -> 9000");
        }
        s.test("What it is: an object is used for at most 512 calls: the 512th answers as is due", MostTests::calls);
        s.runIn(Worlds.FULL, "full of everything: each of them refuses one more, and nothing is changed",
            """
            loss(0, 0, 5) -> state; choose(0, 2199, 2199) -> state; layer(0, 1, 1, 0, 0, 0) -> state
            part(0, 1, 1) -> state; station(0) -> state; reading(0, 0, 0, 0) -> state
            bond(1, 0, 1, 2199, 2199, 1, 1) -> state; scenario(0, 1, 0) -> state; scenario(1, 1, 0) -> state
            scenario(2, 1, 0) -> state; bestAnew(0) -> state; bestAnew(1) -> state; bestAnew(2) -> state
            """);
    }

    /** The 512th call of an object tells a LOSS, or asks for what was told ahead of it. */
    private static void calls(Suite t) {
        new Run(t).go("loss(0, 7, 5);" + Worlds.times(255, "creep(0, #1)")
            + Worlds.times(255, "quota(0) -> 0") + "creep(0, 8) -> 2541");
        new Run(t).go("loss(0, 7, 5);" + Worlds.times(510, "creep(0, 1#)") + "sum(0) -> 1509");
        new Run(t).go(Worlds.times(511, "quota(90)") + "quota(1) -> 90");
    }

    private static String fill(int n) {
        StringBuilder b = new StringBuilder();
        for (int i = 0; i < n; i++) {
            b.append("scenario(M, 1, ").append(i).append(") -> ").append(i + 1).append(";");
        }
        return b.toString();
    }
}
