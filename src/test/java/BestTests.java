/** Promises 22 and 23: the best windows; # in a run stands for both ways to find them. */
final class BestTests {
    private BestTests() {
    }

    static void addTo(Suite s) {
        addChoices(s);
        addClauses(s);
        addHours(s);
    }

    /** Each line is asked of best and of bestAnew, whose answers are the same. */
    private static void both(Suite s, String name, String calls) {
        s.run(name, calls.replaceAll("both\\(([^)]*)\\) -> (-?[0-9]+)", "best($1) -> $2; bestAnew($1) -> $2"));
    }

    private static void addChoices(Suite s) {
        both(s, "promises 22 and 23: LOSSES are parted to use a LAYER more often, those of one HOUR can't be", """
            layer(0, 100, 100, 0, 0, 0); loss(0, 10, 100); loss(0, 11, 100); loss(0, 12, 60); loss(0, 12, 60)
            both(0) -> 300; both(1) -> 0; both(2) -> 0
            """);
        both(s, "promises 22 and 23: LOSSES are put together to come above a FLOOR, some stay in no window", """
            layer(150, 100, 100, 0, 0, 0); loss(0, 90, 100); loss(0, 80, 100); loss(0, 70, 100); loss(0, 60, 100)
            loss(0, 50, 100); both(0) -> 150; layer(0, 10, 50, 0, 0, 0); both(0) -> 160; loss(0, 200, 0); both(0) -> 160
            """);
        both(s, "promises 22 and 23: the LOSSES of a PERIL, if there were no others", """
            layer(0, 100, 100, 0, 0, 0); loss(0, 12, 70); loss(1, 12, 60); loss(1, 13, 7); loss(2, 12, 5); both(0) -> 70
            both(1) -> 67; both(2) -> 5
            """);
        both(s, "promises 22 and 23: what was chosen does not matter, each LAYER always has its whole DEPTH left", """
            layer(0, 100, 100, 0, 0, 0); loss(0, 5, 100); loss(0, 6, 100); choose(0, 0, 6); loss(2, 5, 5000)
            choose(2, 0, 6); hit(0, 1, 4) -> 0; both(0) -> 200; both(2) -> 100
            """);
        both(s, "promises 22 and 23: however many windows, more than the 8 OCCURRENCES that can be", """
            layer(0, 10, 100, 0, 0, 0); loss(0, 0, 10); loss(0, 1, 10); loss(0, 2, 10); loss(0, 3, 10); loss(0, 4, 10)
            loss(0, 5, 10); loss(0, 6, 10); both(0) -> 70; choose(1, 0, 0); choose(1, 1, 1); choose(1, 2, 2); choose(1, 3, 3)
            choose(1, 4, 4); choose(1, 5, 5); choose(1, 6, 6); choose(1, 7, 7); both(0) -> 70; loss(0, 7, 10)
            loss(0, 8, 10); loss(0, 9, 10); best(0) -> 100
            """);
        both(s, "promises 22 and 23: the QUOTA is taken off each window", """
            layer(50, 100, 100, 0, 0, 0); loss(2, 0, 101); loss(2, 100, 99); both(2) -> 100; quota(50); both(2) -> 50
            quota(90); both(2) -> 0; creep(0, 9901); both(2) -> 100
            """);
        both(s, "promises 22 and 23: the SHARE is rounded for each window and LAYER", """
            layer(0, 100, 50, 0, 0, 0); layer(0, 100, 50, 0, 0, 0); loss(0, 0, 5); loss(0, 1, 5); both(0) -> 10
            creep(0, 4); creep(1, 1); both(0) -> 4
            """);
        s.run("promise 22: of 40 LOSSES of the most units", Worlds.times(40, "loss(1, #0, 99999)")
            + Worlds.times(5, "layer(0, 999999, 100, 0, 0, 0)") + "best(1) -> 19999800; bestAnew(1) -> state; best(0) -> 0");
    }

    private static void addClauses(Suite s) {
        for (int peril = 0; peril < 3; peril++) {
            int clause = peril == 0 ? 72 : 168;
            both(s, "promises 22 and 23: a window ends at the end of the clause, of " + clause + " HOURS, PERIL " + peril,
                ("layer(100, 100, 100, 0, 0, 0); loss(P, 1000, 100); loss(P, B, 100); both(P) -> 0; loss(P, L, 50)"
                    + "; both(P) -> 50; creep(0, 0); both(P) -> 50; creep(0, 100); creep(1, 0); both(P) -> 50; creep(2, 0); both(P) -> 0")
                    .replace("P", "" + peril).replace("B", "" + (1000 + clause)).replace("L", "" + (999 + clause)));
        }
        both(s, "promises 22 and 23: LOSSES at the HOURS 0 and 2199", """
            layer(0, 10, 100, 0, 0, 0); loss(0, 0, 10); loss(0, 2199, 10); loss(2, 2199, 9); both(0) -> 20
            both(2) -> 9
            """);
        both(s, "promises 22 and 23: LOSSES that are told from the last HOUR to the first one, and twice at one", """
            layer(10, 100, 100, 0, 0, 0); loss(0, 200, 5); loss(0, 140, 6); loss(0, 100, 7); loss(0, 140, 6); loss(0, 29, 4)
            both(0) -> 9; loss(0, 200, 1); both(0) -> 9; loss(0, 171, 1); both(0) -> 10
            """);
    }

    private static void addHours(Suite s) {
        both(s, "promise 23: at 7 HOURS, and at more than 7: IllegalStateException, best answers still", """
            layer(0, 10, 100, 0, 0, 0); loss(0, 5, 10); loss(0, 6, 10); loss(0, 7, 10); loss(0, 8, 10); loss(0, 9, 10)
            loss(0, 10, 10); both(0) -> 60; loss(0, 11, 10); both(0) -> 70; loss(0, 5, 10); loss(0, 11, 10); both(0) -> 70
            loss(0, 12, 10); best(0) -> 80; bestAnew(0) -> state; both(1) -> 0; both(2) -> 0
            """);
        both(s, "promise 23: LOSSES of 0 units with them, at the 8th HOUR", """
            layer(0, 10, 100, 0, 0, 0); loss(2, 5, 0); loss(2, 6, 0); loss(2, 7, 0); loss(2, 8, 0); loss(2, 9, 0)
            loss(2, 10, 0); loss(2, 11, 9); both(2) -> 9; loss(2, 2199, 0); bestAnew(2) -> state; best(2) -> 9
            """);
        both(s, "promise 23: a LOSS that creeps to 0 units is at its HOUR still", """
            layer(0, 10, 100, 0, 0, 0); loss(2, 5, 1); loss(2, 6, 1); loss(2, 7, 1); loss(2, 8, 1); loss(2, 9, 1)
            loss(2, 10, 1); loss(2, 11, 1); loss(2, 12, 1); bestAnew(2) -> state; creep(7, 0); bestAnew(2) -> state
            best(2) -> 7
            """);
        both(s, "promise 23: HOURS of other PERILS do not count, nor do LOSSES, but HOURS", """
            layer(0, 10, 100, 0, 0, 0); loss(0, 5, 10); loss(0, 6, 10); loss(0, 7, 10); loss(0, 8, 10); loss(0, 9, 10)
            loss(0, 10, 10); loss(0, 11, 10); loss(1, 500, 10); loss(2, 501, 10); both(0) -> 70; both(1) -> 10
            loss(0, 5, 1); loss(0, 6, 1); loss(0, 7, 1); loss(0, 8, 1); loss(0, 9, 1); loss(0, 10, 1); loss(0, 11, 1)
            both(0) -> 70
            """);
    }
}
