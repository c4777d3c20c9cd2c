/** Promises 17 to 21: what is due and kept, and the SPIRAL, and what "Terms" says of the tower and REINSURERS. */
final class TowerTests {
    private TowerTests() {
    }

    static void addTo(Suite s) {
        addOccurrences(s);
        addOrder(s);
        addHits(s);
        addLeft(s);
        addReinstated(s);
        addSums(s);
        addBearing(s);
        addSpiral(s);
        addRounds(s);
    }

    private static void addOccurrences(Suite s) {
        s.run("promise 17: `what`: 0 its GROUND, 1 the QUOTA, 2 its NET, 3 what LAYERS pay, 4 reinstating, 5 its place", """
            loss(1, 10, 333); loss(1, 177, 444); loss(1, 178, 5000); loss(1, 9, 6000); loss(0, 50, 7000); quota(10)
            layer(100, 400, 50, 1, 100, 100); layer(500, 1000, 33, 0, 100, 100); choose(1, 10, 177)
            occurrence(0, 0) -> 777; occurrence(0, 1) -> 77; occurrence(0, 2) -> 700; occurrence(0, 3) -> 266
            occurrence(0, 4) -> 100; occurrence(0, 5) -> 0
            """);
        s.runIn(Worlds.SOME, "promises 17 and 18: each OCCURRENCE and LAYER of several", """
            occurrence(0, 0) -> 1600; occurrence(0, 1) -> 160; occurrence(0, 2) -> 1440; occurrence(0, 3) -> 1210
            occurrence(0, 4) -> 7; occurrence(0, 5) -> 1; occurrence(1, 0) -> 500; occurrence(1, 1) -> 50
            occurrence(1, 2) -> 450; occurrence(1, 3) -> 465; occurrence(1, 4) -> 52; occurrence(1, 5) -> 0
            hit(0, 0, 0) -> 400; hit(0, 0, 1) -> 360; hit(0, 0, 2) -> 50; hit(0, 0, 3) -> 7; hit(0, 0, 4) -> 50
            hit(0, 1, 0) -> 350; hit(0, 1, 1) -> 315; hit(0, 1, 2) -> 350; hit(0, 1, 3) -> 52; hit(0, 1, 4) -> 450
            hit(1, 0, 0) -> 850; hit(1, 0, 1) -> 850; hit(1, 0, 2) -> 0; hit(1, 0, 3) -> 0; hit(1, 0, 4) -> 0
            hit(1, 1, 0) -> 150; hit(1, 1, 1) -> 150; hit(1, 1, 2) -> 0; hit(1, 1, 3) -> 0; hit(1, 1, 4) -> 850
            """);
        s.run("Terms: the greatest numbers that can come together", Worlds.times(40, "loss(0, #, 99999)") + """
            layer(0, 999999, 100, 3, 99999, 150); choose(0, 0, 39); occurrence(0, 0) -> 3999960; hit(0, 0, 0) -> 999999
            hit(0, 0, 1) -> 999999; hit(0, 0, 2) -> 999999; hit(0, 0, 3) -> 149998; hit(0, 0, 4) -> 2999997
            quota(90); occurrence(0, 1) -> 3599964; occurrence(0, 2) -> 399996; hit(0, 0, 3) -> 59998
            layer(399995, 1, 100, 3, 99999, 150); hit(1, 0, 0) -> 1; hit(1, 0, 3) -> 149998; hit(1, 0, 4) -> 3
            """);
    }

    private static void addOrder(Suite s) {
        s.run("Terms: OCCURRENCES are settled by the first HOURS of their windows, of several with the same by PERILS", """
            choose(2, 100, 100); choose(0, 100, 150); choose(1, 100, 101); choose(0, 99, 99); choose(2, 0, 99)
            choose(1, 2199, 2199); occurrence(0, 5) -> 4; occurrence(1, 5) -> 2; occurrence(2, 5) -> 3
            occurrence(3, 5) -> 1; occurrence(4, 5) -> 0; occurrence(5, 5) -> 5; unchoose(); unchoose()
            occurrence(0, 5) -> 3; occurrence(1, 5) -> 1; occurrence(2, 5) -> 2; occurrence(3, 5) -> 0
            """);
        s.run("Terms: settled by first HOURS, not by last ones or by numbers", """
            layer(0, 100, 100, 0, 0, 0); loss(1, 120, 70); loss(0, 50, 60); choose(1, 11, 120); choose(0, 10, 50)
            choose(2, 0, 0); hit(0, 1, 0) -> 60; hit(0, 1, 4) -> 40; hit(0, 0, 0) -> 40; hit(0, 0, 4) -> 0
            hit(0, 2, 4) -> 100; occurrence(0, 5) -> 2; occurrence(1, 5) -> 1; occurrence(2, 5) -> 0
            """);
        s.run("Terms: a first HOUR earlier by one goes ahead of a lower PERIL", """
            choose(2, 9, 9); choose(0, 10, 10); choose(1, 10, 20); occurrence(0, 5) -> 0; occurrence(1, 5) -> 1
            occurrence(2, 5) -> 2
            """);
        s.run("Terms: of 8 OCCURRENCES, told from the last to be settled to the first one", """
            choose(2, 400, 400); choose(1, 400, 400); choose(0, 400, 400); choose(2, 300, 300); choose(1, 300, 300)
            choose(0, 300, 300); choose(2, 0, 0); choose(1, 0, 0); occurrence(0, 5) -> 7; occurrence(1, 5) -> 6
            occurrence(2, 5) -> 5; occurrence(3, 5) -> 4; occurrence(4, 5) -> 3; occurrence(5, 5) -> 2
            occurrence(6, 5) -> 1; occurrence(7, 5) -> 0
            """);
    }

    private static void addHits(Suite s) {
        s.run("Terms: HIT by what the NET is above its FLOOR, 0 if it is not, at most its DEPTH", """
            layer(100, 50, 100, 3, 0, 0); loss(0, 0, 0); choose(0, 0, 0); hit(0, 0, 0) -> 0; creep(0, 99); hit(0, 0, 0) -> 0
            creep(0, 100); hit(0, 0, 0) -> 0; hit(0, 0, 4) -> 200; creep(0, 101); hit(0, 0, 0) -> 1
            hit(0, 0, 4) -> 199; creep(0, 149); hit(0, 0, 0) -> 49; creep(0, 150); hit(0, 0, 0) -> 50; creep(0, 151)
            hit(0, 0, 0) -> 50; hit(0, 0, 4) -> 150; creep(0, 99999); hit(0, 0, 0) -> 50; hit(0, 0, 4) -> 150
            """);
        s.run("Terms: HIT by the NET, not by the GROUND", """
            layer(100, 50, 100, 0, 0, 0); quota(50); loss(0, 0, 200); choose(0, 0, 0); hit(0, 0, 0) -> 0; creep(0, 201)
            hit(0, 0, 0) -> 1; creep(0, 299); hit(0, 0, 0) -> 50; creep(0, 298); hit(0, 0, 0) -> 49
            """);
        s.run("promise 7, `floor`: 0 to 999999, the HIT begins there",
            Worlds.times(10, "loss(0, 0, 99999)") + """
            loss(0, 0, 9); choose(0, 0, 0); layer(999999, 1, 100, 0, 0, 0); layer(0, 999999, 100, 0, 0, 0)
            layer(999998, 5, 100, 0, 0, 0); occurrence(0, 0) -> 999999; hit(0, 0, 0) -> 0; hit(1, 0, 0) -> 999999
            hit(2, 0, 0) -> 1; creep(10, 10); hit(0, 0, 0) -> 1; hit(1, 0, 0) -> 999999; hit(1, 0, 4) -> 0
            hit(2, 0, 0) -> 2; creep(10, 8); hit(0, 0, 0) -> 0; hit(1, 0, 0) -> 999998; hit(2, 0, 0) -> 0
            """);
        s.run("Terms: it pays SHARE times the HIT, divided by 100, rounded down", """
            layer(0, 1000, 1, 0, 0, 0); layer(0, 1000, 99, 0, 0, 0); layer(0, 1000, 100, 0, 0, 0); loss(0, 0, 99)
            choose(0, 0, 0); hit(0, 0, 1) -> 0; hit(1, 0, 1) -> 98; hit(2, 0, 1) -> 99; creep(0, 100); hit(0, 0, 1) -> 1
            hit(1, 0, 1) -> 99; creep(0, 1); hit(0, 0, 1) -> 0; hit(1, 0, 1) -> 0; hit(2, 0, 1) -> 1
            creep(0, 199); hit(0, 0, 1) -> 1; occurrence(0, 3) -> 397
            """);
        s.run("Terms: for each LAYER by itself: one below, one above, one that overlaps both", """
            layer(0, 100, 100, 0, 0, 0); layer(100, 100, 100, 0, 0, 0); layer(50, 100, 100, 0, 0, 0); loss(0, 0, 120)
            loss(0, 1, 120); choose(0, 0, 0); choose(0, 1, 1); hit(0, 0, 0) -> 100; hit(1, 0, 0) -> 20; hit(2, 0, 0) -> 70
            hit(0, 1, 0) -> 0; hit(1, 1, 0) -> 20; hit(2, 1, 0) -> 30; occurrence(0, 3) -> 190; occurrence(1, 3) -> 50
            sum(3) -> 240
            """);
    }

    private static void addLeft(Suite s) {
        for (int again = 0; again < 4; again++) {
            StringBuilder b = new StringBuilder("layer(10, 100, 50, " + again + ", 0, 0);");
            for (int i = 0; i < 6; i++) {
                b.append("loss(0, " + i + ", 200); choose(0, " + i + ", " + i + ");");
            }
            for (int i = 0; i < 6; i++) {
                int hit = i <= again ? 100 : 0;
                b.append("hit(0, " + i + ", 0) -> " + hit + "; hit(0, " + i + ", 1) -> " + hit / 2 + ";");
                b.append("hit(0, " + i + ", 4) -> " + 100 * Math.max(0, again - i) + ";");
            }
            s.run("Terms: it has DEPTH times 1 more than its REINSTATEMENTS to begin with, " + again, b.toString());
        }
        s.run("Terms: HIT at most what it has left, and so much less by each HIT, whatever it pays", """
            layer(0, 100, 1, 1, 0, 0); loss(0, 0, 90); loss(0, 1, 70); loss(0, 2, 90); loss(0, 3, 90); choose(0, 0, 0)
            choose(0, 1, 1); choose(0, 2, 2); choose(0, 3, 3); hit(0, 0, 4) -> 110; hit(0, 1, 4) -> 40
            hit(0, 2, 0) -> 40; hit(0, 2, 1) -> 0; hit(0, 2, 4) -> 0; hit(0, 3, 0) -> 0; hit(0, 3, 4) -> 0
            creep(1, 20); hit(0, 2, 0) -> 90; hit(0, 2, 4) -> 0; hit(0, 3, 0) -> 0; creep(1, 19); hit(0, 2, 4) -> 1
            hit(0, 3, 0) -> 1
            """);
        s.run("Terms: an OCCURRENCE that does not HIT leaves what was left", """
            layer(50, 100, 100, 0, 0, 0); loss(0, 0, 80); loss(0, 1, 50); loss(0, 2, 200); choose(0, 0, 0); choose(0, 1, 1)
            choose(0, 2, 2); hit(0, 0, 4) -> 70; hit(0, 1, 0) -> 0; hit(0, 1, 4) -> 70; hit(0, 2, 0) -> 70; hit(0, 2, 4) -> 0
            """);
    }

    private static void addReinstated(Suite s) {
        s.run("Terms: as much is reinstated as there are DEPTH times REINSTATEMENTS not yet reinstated, or all of it", """
            layer(100, 1000, 80, 1, 500, 50); loss(0, 0, 800); loss(0, 100, 800); loss(0, 200, 800); loss(0, 300, 800)
            choose(0, 0, 0); choose(0, 100, 100); choose(0, 200, 200); choose(0, 300, 300)
            hit(0, 0, 0) -> 700; hit(0, 0, 1) -> 560; hit(0, 0, 2) -> 700; hit(0, 0, 3) -> 175; hit(0, 0, 4) -> 1300
            hit(0, 1, 0) -> 700; hit(0, 1, 1) -> 560; hit(0, 1, 2) -> 300; hit(0, 1, 3) -> 75; hit(0, 1, 4) -> 600
            hit(0, 2, 0) -> 600; hit(0, 2, 1) -> 480; hit(0, 2, 2) -> 0; hit(0, 2, 3) -> 0; hit(0, 2, 4) -> 0
            hit(0, 3, 0) -> 0; hit(0, 3, 1) -> 0; hit(0, 3, 2) -> 0; hit(0, 3, 3) -> 0; hit(0, 3, 4) -> 0; sum(5) -> 250
            """);
        s.run("Terms: reinstated to the last of it, by HITS that are just as much, one less and one more", """
            layer(0, 100, 100, 1, 100, 100); loss(0, 0, 60); loss(0, 1, 40); loss(0, 2, 5); choose(0, 0, 0); choose(0, 1, 1)
            choose(0, 2, 2); hit(0, 0, 2) -> 60; hit(0, 1, 2) -> 40; hit(0, 2, 2) -> 0; creep(1, 39); hit(0, 1, 2) -> 39
            hit(0, 2, 2) -> 1; creep(1, 41); hit(0, 1, 2) -> 40; hit(0, 2, 2) -> 0; sum(5) -> 100
            """);
        s.run("Terms: without REINSTATEMENTS nothing is reinstated, nor paid for it", """
            layer(0, 100, 100, 0, 99999, 150); loss(0, 0, 60); choose(0, 0, 0); hit(0, 0, 0) -> 60; hit(0, 0, 2) -> 0
            hit(0, 0, 3) -> 0; sum(5) -> 0; hit(0, 0, 4) -> 40
            """);
        s.run("Terms: 3 REINSTATEMENTS, through more OCCURRENCES than that", """
            layer(0, 10, 100, 3, 100, 100)
            """ + Worlds.times(7, "loss(0, #, 6); choose(0, #, #)") + """
            hit(0, 4, 2) -> 6; hit(0, 4, 4) -> 10; hit(0, 5, 0) -> 6; hit(0, 5, 2) -> 0; hit(0, 6, 0) -> 4
            hit(0, 6, 2) -> 0; hit(0, 6, 4) -> 0; sum(5) -> 300
            """);
        s.run("Terms: premium times what is reinstated times RATE, divided by 100 times DEPTH, rounded once", """
            layer(0, 7, 1, 1, 99, 99); loss(0, 0, 5); choose(0, 0, 0); hit(0, 0, 3) -> 70; occurrence(0, 4) -> 70
            layer(0, 100, 100, 1, 1, 100); layer(0, 5, 100, 1, 1, 99); layer(0, 5, 100, 1, 1, 100)
            layer(0, 5, 100, 1, 1, 150); hit(1, 0, 3) -> 0; hit(2, 0, 3) -> 0; hit(3, 0, 3) -> 1; hit(4, 0, 3) -> 1
            creep(0, 4); hit(3, 0, 3) -> 0; hit(4, 0, 3) -> 1; creep(0, 3); hit(4, 0, 3) -> 0; creep(0, 100); hit(1, 0, 3) -> 1
            """);
        s.run("promise 7, `premium` and `rate` of 0: nothing is paid for reinstating", """
            layer(0, 10, 100, 3, 0, 150); layer(0, 10, 100, 3, 99999, 0); loss(0, 0, 10); choose(0, 0, 0); hit(0, 0, 2) -> 10
            hit(0, 0, 3) -> 0; hit(1, 0, 2) -> 10; hit(1, 0, 3) -> 0; occurrence(0, 4) -> 0; sum(5) -> 0
            """);
        s.run("promise 7, `premium` 99999 and `rate` 150, of the least DEPTH", """
            layer(0, 1, 1, 3, 99999, 150); loss(0, 0, 1); choose(0, 0, 0); hit(0, 0, 1) -> 0
            hit(0, 0, 3) -> 149998; sum(6) -> 149999
            """);
    }

    private static void addSums(Suite s) {
        s.run("promise 19: `what`: 0 all LOSSES to 7 what REINSURERS bear directly, the QUOTA with it", """
            loss(0, 10, 1000); loss(0, 90, 500); loss(1, 10, 777); quota(20); layer(100, 300, 90, 1, 60, 100)
            layer(200, 600, 100, 0, 60, 100); choose(0, 10, 81); choose(1, 0, 100); part(0, 1, 33); part(0, 0, 33)
            part(1, 2, 100); sum(0) -> 2277; sum(1) -> 500; sum(2) -> 355; sum(3) -> 1140; sum(4) -> 184; sum(5) -> 60
            sum(6) -> 1026; sum(7) -> 1311
            """);
        s.runIn(Worlds.SOME, "promise 19: of several LAYERS, PARTS and OCCURRENCES", """
            sum(0) -> 2400; sum(1) -> 300; sum(2) -> 210; sum(3) -> 1675; sum(4) -> 68; sum(5) -> 59; sum(6) -> 642
            sum(7) -> 1817
            """);
        s.run("promise 19: 6 can be below 0, as LAYERS may overlap", """
            loss(0, 10, 1000); choose(0, 10, 10); layer(0, 1000, 100, 1, 100, 10); part(0, 0, 100); sum(6) -> 10
            layer(0, 1000, 100, 1, 100, 10); part(1, 1, 1); sum(6) -> 10; part(1, 1, 2); sum(6) -> 0; part(1, 1, 3); sum(6) -> -10
            layer(0, 1000, 100, 1, 100, 10); layer(0, 1000, 100, 1, 100, 10); layer(0, 1000, 100, 1, 100, 10)
            part(1, 1, 100); part(2, 2, 100); part(3, 3, 100); part(4, 4, 100); sum(3) -> 5000; sum(4) -> 0
            sum(5) -> 50; sum(6) -> -3950; sum(7) -> 5000; basis() -> 3950
            """);
        s.run("promise 19: 4, of what LAYERS pay what no REINSURER bears: to 0 where PARTS are 100 together", """
            layer(0, 100, 100, 0, 0, 0); loss(0, 0, 100); choose(0, 0, 0); sum(4) -> 100; part(0, 0, 1); sum(4) -> 99
            part(0, 5, 98); sum(4) -> 1; part(0, 0, 2); sum(4) -> 0; quota(90); sum(4) -> 1; sum(3) -> 10; sum(7) -> 99
            """);
        s.run("promise 19: all LOSSES are in OCCURRENCES, or none, at the edges of a window", """
            loss(0, 5, 3); loss(0, 6, 4); choose(0, 4, 4); sum(1) -> 7; choose(0, 5, 5); sum(1) -> 4
            choose(0, 6, 77); sum(1) -> 0; sum(0) -> 7
            """);
    }

    private static void addBearing(Suite s) {
        s.run("Terms: of what a LAYER pays for an OCCURRENCE a REINSURER bears PART times that, divided by 100, each rounded", """
            layer(0, 99, 100, 1, 0, 0); layer(0, 99, 100, 1, 0, 0); loss(0, 0, 99); loss(0, 1, 99); choose(0, 0, 0)
            choose(0, 1, 1); part(0, 1, 50); part(1, 1, 50); reinsurer(1, 0) -> 196; sum(4) -> 200; quota(50)
            reinsurer(0, 0) -> 98; reinsurer(1, 0) -> 100; part(0, 0, 10); reinsurer(0, 0) -> 108
            """);
        s.run("Terms: a PART of 1 of 99 units is nothing, of 100 it is 1; a PART of 100 is all", """
            layer(0, 1000, 100, 0, 0, 0); loss(0, 0, 99); choose(0, 0, 0); part(0, 1, 1); part(0, 2, 99); reinsurer(1, 0) -> 0
            reinsurer(2, 0) -> 98; sum(4) -> 1; creep(0, 100); reinsurer(1, 0) -> 1; reinsurer(2, 0) -> 99; sum(4) -> 0
            part(0, 1, 0); part(0, 2, 100); creep(0, 99); reinsurer(2, 0) -> 99; reinsurer(1, 0) -> 0
            """);
        s.run("Terms: PART of what the LAYER pays, not of its HIT", """
            layer(0, 100, 50, 0, 0, 0); loss(0, 0, 100); choose(0, 0, 0); part(0, 3, 50); reinsurer(3, 0) -> 25
            sum(4) -> 25
            """);
        s.run("Terms: the QUOTA of all OCCURRENCES is borne by the REINSURER 0, as well as its PARTS", """
            quota(10); loss(0, 0, 100); loss(0, 1, 205); loss(0, 2, 999); choose(0, 0, 0); choose(0, 1, 1)
            reinsurer(0, 0) -> 30; reinsurer(1, 0) -> 0; layer(0, 50, 100, 3, 0, 0); part(0, 0, 100); reinsurer(0, 0) -> 130
            sum(7) -> 130
            """);
        s.run("promise 20: of what was taken back nothing is borne any more", """
            layer(0, 100, 100, 3, 10, 100); part(0, 4, 50); loss(0, 0, 60); loss(0, 1, 80); choose(0, 0, 0); choose(0, 1, 1)
            reinsurer(4, 0) -> 70; sum(5) -> 14; unchoose(); reinsurer(4, 0) -> 30; sum(3) -> 60; sum(4) -> 30
            sum(5) -> 6; sum(7) -> 30
            """);
        StringBuilder most = new StringBuilder();
        for (int i = 0; i < 5; i++) {
            most.append("layer(0, 10, 100, 3, 0, 0); part(" + i + ", " + (i + 1) + ", 100);");
        }
        for (int i = 0; i < 8; i++) {
            most.append("loss(0, " + i + ", " + (i + 1) + "); choose(0, " + i + ", " + i + ");");
        }
        s.run("promise 20: of 8 OCCURRENCES and 5 LAYERS, the last of each with them", most + Worlds.times(5, "hit(#, 7, 4) -> 4")
            + "reinsurer(1, 0) -> 36; reinsurer(2, 0) -> 36; reinsurer(3, 0) -> 36; reinsurer(4, 0) -> 36"
            + "; reinsurer(5, 0) -> 36; reinsurer(0, 0) -> 0; sum(3) -> 180");
    }

    /** The REINSURER 1 bears so many units, no other one bears any. */
    private static String bearing(int units) {
        return "layer(0, 99999, 100, 0, 0, 0); loss(0, 0, " + units + "); choose(0, 0, 0); part(0, 1, 100);";
    }

    private static void addSpiral(Suite s) {
        s.run("promise 20: `what`: 0 what it bears directly, 1 what it has at the end of the SPIRAL, 2 its NET", bearing(1000) + """
            retro(1, 2, 300, 500); retro(2, 3, 100, 999999); retro(3, 1, 0, 50)
            reinsurer(1, 0) -> 1000; reinsurer(2, 0) -> 0; reinsurer(3, 0) -> 0
            reinsurer(1, 1) -> 1050; reinsurer(2, 1) -> 500; reinsurer(3, 1) -> 400
            reinsurer(1, 2) -> 550; reinsurer(2, 2) -> 100; reinsurer(3, 2) -> 350
            retro(0, 2, 0, 999999); retro(4, 2, 0, 999999); reinsurer(2, 1) -> 500
            """);
        s.run("Terms: it passes on what it has above the FLOOR of its RETRO, at most its DEPTH", bearing(100) + """
            retro(1, 2, 101, 50); reinsurer(2, 1) -> 0; reinsurer(1, 2) -> 100; retro(1, 2, 100, 50); reinsurer(2, 1) -> 0
            retro(1, 2, 99, 50); reinsurer(2, 1) -> 1; reinsurer(1, 2) -> 99; retro(1, 2, 51, 50); reinsurer(2, 1) -> 49
            retro(1, 2, 50, 50); reinsurer(2, 1) -> 50; retro(1, 2, 49, 50); reinsurer(2, 1) -> 50; reinsurer(1, 2) -> 50
            retro(1, 2, 0, 1); reinsurer(2, 1) -> 1; retro(1, 2, 0, 999999); reinsurer(2, 1) -> 100; reinsurer(1, 2) -> 0
            retro(1, 2, 999999, 999999); reinsurer(2, 1) -> 0; reinsurer(1, 1) -> 100
            """);
        s.run("Terms: what is passed on to it and what it bears directly, together, of several that pass on", bearing(900) + """
            part(0, 1, 40); part(0, 2, 30); part(0, 3, 20); part(0, 4, 10); retro(1, 4, 60, 200); retro(2, 4, 0, 100)
            retro(3, 4, 179, 5); reinsurer(4, 0) -> 90; reinsurer(4, 1) -> 391; reinsurer(1, 2) -> 160
            reinsurer(2, 2) -> 170; reinsurer(3, 2) -> 179; reinsurer(4, 2) -> 391; sum(7) -> 900
            """);
        s.run("Terms: all by what they had ahead of the round, whichever REINSURER it comes from", bearing(1000) + """
            retro(1, 2, 0, 10); retro(2, 3, 0, 10); rounds() -> 3; retro(2, 3, 0, 0); retro(1, 0, 0, 10); retro(0, 5, 0, 10)
            rounds() -> 3; reinsurer(5, 1) -> 10; reinsurer(0, 1) -> 10; reinsurer(0, 2) -> 0
            """);
        s.run("Terms: the SPIRAL ends behind the 40th round; its NET is less what it would pass on in one more", bearing(1000) + """
            retro(1, 2, 0, 999999); retro(2, 1, 0, 999999); rounds() -> 40; reinsurer(1, 1) -> 21000
            reinsurer(2, 1) -> 20000; reinsurer(1, 2) -> 0; reinsurer(2, 2) -> 0; retro(2, 1, 0, 5000)
            reinsurer(1, 1) -> 6000; reinsurer(2, 1) -> 6000; reinsurer(2, 2) -> 1000; reinsurer(1, 0) -> 1000; sum(7) -> 1000
            """);
        s.run("Terms: what the insurer keeps is by what is borne directly, not by the SPIRAL", bearing(1000) + """
            sum(6) -> 0; sum(7) -> 1000; retro(1, 2, 0, 999999); retro(2, 1, 0, 999999); sum(6) -> 0; sum(7) -> 1000
            sum(4) -> 0
            """);
    }

    private static void addRounds(Suite s) {
        s.run("promise 21: how many rounds, that which changes nothing with them: 1 without a RETRO", "rounds() -> 1;"
            + bearing(1000) + "rounds() -> 1; retro(2, 1, 0, 999999); rounds() -> 1; reinsurer(1, 1) -> 1000");
        s.run("promise 21: 1 at the FLOOR, 2 if one unit is passed on, one more for each that passes it on", bearing(1000) + """
            retro(1, 2, 1000, 5); rounds() -> 1; retro(1, 2, 999, 5); rounds() -> 2; retro(2, 3, 0, 5); rounds() -> 3
            retro(3, 4, 0, 5); rounds() -> 4; retro(4, 5, 0, 5); rounds() -> 5; retro(5, 0, 0, 5); rounds() -> 6
            reinsurer(0, 1) -> 1; reinsurer(5, 2) -> 0; retro(0, 1, 0, 5); rounds() -> 31; reinsurer(1, 1) -> 1005
            """);
        s.run("promise 21: returns 1 to 40: the last change in the 37th, the 39th and the 40th round", bearing(18) + """
            retro(1, 2, 0, 999999); retro(2, 1, 0, 324); rounds() -> 38; retro(2, 1, 0, 341); rounds() -> 40
            retro(2, 1, 0, 342); rounds() -> 40; reinsurer(1, 1) -> 360; reinsurer(2, 1) -> 360; reinsurer(2, 2) -> 18
            retro(2, 1, 0, 343); rounds() -> 40; reinsurer(1, 1) -> 361; reinsurer(2, 1) -> 360; retro(2, 1, 0, 999999)
            rounds() -> 40; reinsurer(1, 1) -> 378; reinsurer(2, 1) -> 360
            """);
    }
}
