/** Runs that make what other tests begin with. */
final class Worlds {
    /** An object of which nothing was asked yet. */
    static final String NOTHING = "";

    /**
     * Some of everything, and room for more: 5 LOSSES, 2 OCCURRENCES, 2 LAYERS, 3 STATIONS of which 1 has
     * failed, 3 READINGS, 3 BONDS of which 1 is extended, HOUR 40, SCENARIOS of the MODELS 0 and 2.
     */
    static final String SOME = """
        loss(0, 10, 900); loss(0, 81, 700); loss(1, 10, 500); loss(2, 2199, 300); loss(0, 300, 0)
        choose(0, 10, 81); choose(1, 0, 167)
        quota(10)
        layer(100, 400, 90, 1, 60, 100); layer(300, 1000, 100, 0, 50, 150)
        part(0, 0, 30); part(0, 1, 60); part(1, 2, 100)
        retro(0, 1, 50, 100); retro(1, 2, 10, 1000)
        station(0); station(5); station(15)
        reading(0, 20, 0, 5); reading(1, 20, 0, 7); reading(2, 30, 1, 4)
        bond(1000, 0, 33, 0, 60, 4, 40); bond(500, 1, 32768, 20, 90, 3, 100); bond(800, 0, 2, 0, 2199, 9, 1)
        fails(1, 25); extend(1, 20); pass(40)
        scenario(0, 3, 500); scenario(0, 7, 1200); scenario(2, 1, 900)
        """;

    /** The most of everything: 40 LOSSES, 8 OCCURRENCES, 5 LAYERS, 6 STATIONS, 60 READINGS, 5 BONDS, 36 SCENARIOS. */
    static final String FULL = full();

    private Worlds() {
    }

    private static String full() {
        StringBuilder b = new StringBuilder();
        for (int i = 0; i < 40; i++) {
            b.append("loss(").append(i % 3).append(", ").append(50 * i).append(", ").append(100 + i).append(");");
        }
        for (int i = 0; i < 8; i++) {
            int first = 200 * i;
            b.append("choose(").append(i % 3).append(", ").append(first).append(", ").append(first + 70).append(");");
        }
        for (int i = 0; i < 5; i++) {
            b.append("layer(").append(20 * i).append(", 80, ").append(100 - i).append(", ").append(i % 4);
            b.append(", 60, 100);");
            b.append("part(").append(i).append(", ").append(i).append(", ").append(100 - 10 * i).append(");");
        }
        for (int i = 0; i < 6; i++) {
            b.append("station(").append(3 * i).append(");");
        }
        for (int i = 0; i < 60; i++) {
            b.append("reading(").append(i % 6).append(", ").append(30 * i).append(", ").append(i % 3);
            b.append(", ").append(i % 10).append(");");
        }
        for (int i = 0; i < 5; i++) {
            b.append("bond(").append(1000 + i).append(", ").append(i % 3).append(", ").append(1 << 3 * i);
            b.append(", 0, ").append(400 * (i + 1)).append(", 5, 50);");
        }
        for (int i = 0; i < 36; i++) {
            b.append("scenario(").append(i % 3).append(", ").append(1 + i).append(", ").append(10 * i).append(");");
        }
        return b.append("retro(0, 1, 5, 500);").toString();
    }

    /** The calls n times, # in them standing for 0, 1 and so on. */
    static String times(int n, String calls) {
        StringBuilder b = new StringBuilder();
        for (int i = 0; i < n; i++) {
            b.append(calls.replace("#", "" + i)).append(";");
        }
        return b.toString();
    }
}
