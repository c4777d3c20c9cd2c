/** Promises 1 to 5: objects, LOSSES and windows, and what "Terms" says of them. */
final class LossTests {
    private LossTests() {
    }

    static void addTo(Suite s) {
        s.test("promise 1: objects are apart from each other", LossTests::objectsApart);
        addLosses(s);
        addWindows(s);
        addInCommon(s);
        addTakenBack(s);
    }

    static void objectsApart(Suite t) {
        Stormbond x = new Stormbond();
        Stormbond y = new Stormbond();
        x.loss(0, 0, 7);
        x.pass(5);
        x.choose(0, 0, 0);
        x.quota(50);
        t.due("x.sum(0)", 7, x.sum(0));
        t.due("y.sum(0)", 0, y.sum(0));
        t.due("y.hour()", 0, y.hour());
        t.due("y.loss", 0, y.loss(0, 0, 10));
        t.due("y.choose", 0, y.choose(0, 0, 0));
        t.due("y.sum(2)", 0, y.sum(2));
        t.due("x.sum(2)", 3, x.sum(2));
    }

    private static void addLosses(Suite s) {
        s.run("promise 2: returns its number; LOSSES are numbered from 0", """
            loss(0, 10, 5) -> 0; loss(0, 10, 5) -> 1; loss(2, 2199, 99999) -> 2; loss(1, 0, 0) -> 3
            sum(0) -> 100009; sum(1) -> 100009; sum(6) -> 100009
            """);
        s.run("promise 2: `units`: 0 to 99999, both count as they are", """
            loss(0, 7, 0); loss(0, 8, 99999); choose(0, 7, 7); choose(0, 8, 8); occurrence(0, 0) -> 0
            occurrence(1, 0) -> 99999; sum(0) -> 99999; layer(0, 999999, 100, 0, 0, 0); best(0) -> 99999
            """);
        s.run("Terms: HOURS are 0 to 2199, LOSSES at both are in windows that begin and end there", """
            loss(0, 0, 5); loss(0, 2199, 7); loss(1, 0, 50); loss(1, 2199, 70); loss(2, 0, 500); loss(2, 2199, 700)
            choose(0, 0, 71); choose(0, 2128, 2199); choose(1, 0, 167); choose(1, 2032, 2199); choose(2, 0, 0)
            choose(2, 2199, 2199); occurrence(0, 0) -> 5; occurrence(1, 0) -> 7; occurrence(2, 0) -> 50
            occurrence(3, 0) -> 70; occurrence(4, 0) -> 500; occurrence(5, 0) -> 700; sum(1) -> 0
            """);
        s.run("promise 3: returns what it was", """
            loss(0, 10, 100); loss(0, 10, 0); creep(0, 99999) -> 100; creep(0, 99999) -> 99999; creep(0, 0) -> 99999
            creep(0, 1) -> 0; creep(1, 5) -> 0; creep(0, 2) -> 1; creep(1, 5) -> 5
            """);
        s.run("promise 3: there is no such LOSS behind the last one", """
            creep(0, 5) -> index; loss(0, 10, 100) -> 0; creep(1, 5) -> index; creep(0, 5) -> 100; loss(1, 0, 7) -> 1
            creep(1, 6) -> 7; creep(2, 6) -> index; creep(-1, 6) -> index
            """);
        s.run("Terms: all is reckoned anew from what is told by now, a LOSS that creeps counts everywhere", """
            loss(0, 10, 100); loss(0, 11, 200); quota(10); layer(150, 1000, 50, 1, 60, 100); part(0, 1, 50)
            retro(1, 2, 0, 7); choose(0, 10, 11); occurrence(0, 0) -> 300; occurrence(0, 1) -> 30
            occurrence(0, 2) -> 270; hit(0, 0, 0) -> 120; hit(0, 0, 1) -> 60; occurrence(0, 4) -> 7; best(0) -> 60
            bestAnew(0) -> 60; reinsurer(1, 0) -> 30; reinsurer(2, 1) -> 7; sum(6) -> 247; basis() -> -247
            creep(1, 1000) -> 200; occurrence(0, 0) -> 1100; occurrence(0, 1) -> 110; occurrence(0, 2) -> 990
            hit(0, 0, 0) -> 840; hit(0, 0, 1) -> 420; occurrence(0, 4) -> 50; best(0) -> 420; bestAnew(0) -> 420
            reinsurer(1, 0) -> 210; sum(0) -> 1100; sum(1) -> 0; sum(6) -> 830; basis() -> -830
            creep(0, 0) -> 100; creep(1, 0) -> 1000; occurrence(0, 0) -> 0; hit(0, 0, 4) -> 2000; best(0) -> 0
            reinsurer(2, 1) -> 0; basis() -> 0
            """);
        s.run("Terms: times of telling do not matter: LOSSES and windows at HOURS to come", """
            choose(2, 2199, 2199) -> 0; loss(2, 2199, 5) -> 0; occurrence(0, 0) -> 5; choose(0, 100, 171) -> 1
            loss(0, 171, 6); occurrence(1, 0) -> 6; best(0) -> 0; sum(0) -> 11; sum(1) -> 0
            """);
        s.run("Terms: times of telling do not matter: LOSSES and windows that have passed", """
            pass(500); pass(500); pass(500); pass(500); pass(199) -> 2199; choose(2, 0, 0) -> 0; loss(2, 0, 5) -> 0
            loss(2, 1, 50) -> 1; occurrence(0, 0) -> 5; choose(2, 1, 1) -> 1; occurrence(1, 0) -> 50; unchoose() -> 1
            sum(1) -> 50
            """);
        s.test("Terms: what is asked for changes nothing", LossTests::asking);
    }

    static void asking(Suite t) {
        java.util.List<String> told = java.util.List.of(Worlds.SOME.trim().split("\\s*[;\n]\\s*"));
        java.util.List<String> ahead = Answers.behind(told, null);
        for (String question : Answers.allQuestions()) {
            if (!ahead.equals(Answers.behind(told, question))) {
                t.fault(question + " changes what is answered behind it");
            }
        }
    }

    private static void addWindows(Suite s) {
        for (int peril = 0; peril < 3; peril++) {
            int clause = peril == 0 ? 72 : 168;
            s.run("Terms: PERILS with a clause of 72 HOURS, or 168: a window is no more than its clause, PERIL " + peril,
                ("choose(P, 0, L) -> argument; choose(P, 0, M) -> 0; choose(P, A, 2199) -> argument; choose(P, B, 2199) -> 1"
                    + "; choose(P, 500, 500) -> 2; choose(P, 501, C) -> 3; choose(P, 1000, D) -> argument")
                    .replace("P", "" + peril).replace("L", "" + clause).replace("M", "" + (clause - 1))
                    .replace("A", "" + (2199 - clause)).replace("B", "" + (2200 - clause))
                    .replace("C", "" + (500 + clause)).replace("D", "" + (1000 + clause)));
        }
        s.run("Terms: the clause of 72 HOURS is that of WIND alone", """
            choose(0, 0, 72) -> argument; choose(1, 0, 72) -> 0; choose(2, 0, 72) -> 1
            choose(0, 0, 167) -> argument
            """);
        s.run("Terms: the HOURS from a first to a last one, both with it", """
            loss(1, 99, 1); loss(1, 100, 10); loss(1, 150, 100); loss(1, 200, 1000); loss(1, 201, 10000)
            choose(1, 100, 200); occurrence(0, 0) -> 1110; sum(1) -> 10001; unchoose(); choose(1, 101, 199)
            occurrence(0, 0) -> 100; unchoose(); choose(1, 99, 201); occurrence(0, 0) -> 11111; sum(1) -> 0
            """);
        s.run("Terms: a window of one HOUR", """
            loss(0, 4, 1); loss(0, 5, 10); loss(0, 6, 100); choose(0, 5, 5) -> 0; occurrence(0, 0) -> 10
            sum(1) -> 101
            """);
        s.run("Terms: its GROUND is the units of all LOSSES of its PERIL, of no other one", """
            loss(0, 5, 1); loss(1, 5, 10); loss(2, 5, 100); loss(1, 5, 30); choose(1, 5, 5); occurrence(0, 0) -> 40
            choose(2, 5, 5); occurrence(1, 0) -> 100; sum(1) -> 1; choose(0, 5, 5); occurrence(2, 0) -> 1; sum(1) -> 0
            """);
        s.run("promise 4, `last`: the last HOUR, not below the first one", """
            choose(0, 5, 4) -> argument; choose(0, 2199, 0) -> argument; choose(0, 0, -1) -> argument
            choose(0, 5, 5) -> 0
            """);
        s.run("promise 4: first or last is out of range, also where the least and the greatest int are far apart", """
            choose(0, MIN, MAX) -> argument; choose(0, MAX, MIN) -> argument; choose(0, MIN, 0) -> argument
            choose(0, 0, MIN) -> argument; choose(0, MAX, MAX) -> argument; choose(0, MIN, MIN) -> argument
            choose(0, 2199, MAX) -> argument; choose(1, -1, -1) -> argument; choose(1, 2200, 2200) -> argument
            choose(1, -1, 0) -> argument; choose(1, 2199, 2200) -> argument; choose(1, 2199, 2199) -> 0
            """);
        s.run("promise 4: returns its number; OCCURRENCES are numbered from 0, by no other order", """
            choose(2, 500, 500) -> 0; choose(0, 0, 0) -> 1; choose(1, 300, 300) -> 2; occurrence(1, 5) -> 0
            occurrence(0, 5) -> 2
            """);
    }

    private static void addInCommon(Suite s) {
        s.run("promise 4: it has an HOUR in common with another one of the PERIL: each way to meet it", """
            choose(0, 100, 110) -> 0; choose(0, 100, 110) -> state; choose(0, 90, 100) -> state
            choose(0, 110, 120) -> state; choose(0, 105, 106) -> state; choose(0, 95, 115) -> state
            choose(0, 100, 100) -> state; choose(0, 110, 110) -> state; choose(0, 50, 101) -> state
            """);
        s.run("promise 4: no HOUR in common right ahead of it and right behind it", """
            choose(0, 100, 110) -> 0; choose(0, 111, 120) -> 1; choose(0, 90, 99) -> 2; choose(0, 121, 121) -> 3
            choose(0, 89, 90) -> state
            """);
        s.run("promise 4: windows of other PERILS may have HOURS in common", """
            choose(0, 100, 110) -> 0; choose(1, 100, 110) -> 1; choose(2, 110, 120) -> 2
            choose(2, 120, 130) -> state
            """);
        s.run("promise 4: with another one of the PERIL, not the last one that was chosen alone", """
            choose(0, 100, 110) -> 0; choose(0, 10, 20) -> 1; choose(1, 30, 40) -> 2
            choose(0, 110, 110) -> state; choose(0, 20, 21) -> state
            """);
        s.run("promise 4: a gap of one HOUR between two windows", """
            choose(0, 10, 20) -> 0; choose(0, 22, 30) -> 1; choose(0, 21, 22) -> state
            choose(0, 20, 21) -> state; choose(0, 21, 21) -> 2
            """);
    }

    private static void addTakenBack(Suite s) {
        s.run("promise 5: takes the OCCURRENCE with the greatest number back, not the last to be settled", """
            loss(0, 5, 10); loss(0, 6, 20); loss(0, 7, 40); choose(0, 7, 7); choose(0, 6, 6); choose(0, 5, 5)
            sum(1) -> 0; unchoose() -> 2; sum(1) -> 10; occurrence(0, 0) -> 40; occurrence(1, 0) -> 20
            occurrence(2, 0) -> index; unchoose() -> 1; occurrence(0, 0) -> 40; sum(1) -> 30
            """);
        s.run("promise 5: its HOURS are free then, and its number is the next one's", """
            choose(0, 5, 9); choose(0, 10, 20); unchoose() -> 1; choose(0, 9, 9) -> state; choose(0, 10, 10) -> 1
            choose(0, 11, 11) -> 2; unchoose() -> 2; unchoose() -> 1; unchoose() -> 0; choose(0, 9, 10) -> 0
            """);
        s.run("promise 5: what it used up of LAYERS is there again, and what it was paid for reinstating is not due", """
            layer(0, 100, 100, 1, 10, 100); loss(0, 1, 100); loss(0, 2, 100); loss(0, 3, 100); choose(0, 3, 3)
            choose(0, 2, 2); choose(0, 1, 1); hit(0, 0, 0) -> 0; hit(0, 1, 4) -> 0; sum(5) -> 10; unchoose() -> 2
            hit(0, 0, 0) -> 100; hit(0, 0, 4) -> 0; hit(0, 1, 4) -> 100; unchoose() -> 1; hit(0, 0, 4) -> 100
            sum(5) -> 10; sum(3) -> 100
            """);
    }
}
