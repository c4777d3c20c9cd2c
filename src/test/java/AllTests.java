/** Runs every test of the project; takes the paths of Stormbond.java and of README.md. */
public final class AllTests {
    private AllTests() {
    }

    public static void main(String[] args) {
        Suite s = new Suite();
        FaceTests.addTo(s);
        RangeTests.addTo(s);
        MostTests.addTo(s);
        NoneTests.addTo(s);
        FirstTests.addTo(s);
        LossTests.addTo(s);
        CoverTests.addTo(s);
        TowerTests.addTo(s);
        BestTests.addTo(s);
        BondTests.addTo(s);
        PriceTests.addTo(s);
        RandomRuns.addTo(s);
        ReadmeTests.addTo(s, args.length > 1 ? args[1] : "README.md");
        LanguageTests.addTo(s, args.length > 0 ? args[0] : "src/main/java/Stormbond.java");
        if (!s.end()) {
            System.exit(1);
        }
    }
}
