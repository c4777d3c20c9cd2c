import java.util.ArrayList;
import java.util.List;

/** Runs named tests and counts them; a test fails if one of its answers is not the one that is due. */
final class Suite {
    interface Body {
        void run(Suite t) throws Exception;
    }

    private final List<String> faults = new ArrayList<>();
    private int passed;
    private int failed;

    void test(String name, Body body) {
        faults.clear();
        try {
            body.run(this);
        } catch (Exception | Error e) {
            faults.add("the test itself ended with " + e);
        }
        if (faults.isEmpty()) {
            passed++;
            return;
        }
        failed++;
        System.out.println("FAILED: " + name);
        for (int i = 0; i < faults.size() && i < 20; i++) {
            System.out.println("    " + faults.get(i));
        }
    }

    /** A test that is one run of calls on a new object. */
    void run(String name, String calls) {
        test(name, t -> new Run(t).go(calls));
    }

    /** A test that is one run of calls behind those of a world. */
    void runIn(String world, String name, String calls) {
        test(name, t -> new Run(t).go(world).go(calls));
    }

    /** A test of a range: # in the call stands for the argument; each number is told to a world of its own. */
    void range(String world, String name, int least, int most, String refusal, String call, Object forLeast,
            Object forMost) {
        test(name, t -> {
            new Run(t).go(world).go(call.replace("#", "" + least) + " -> " + forLeast);
            new Run(t).go(world).go(call.replace("#", "" + most) + " -> " + forMost);
            Run refused = new Run(t).go(world);
            for (long wrong : new long[] {least - 1L, most + 1L, Integer.MIN_VALUE, Integer.MAX_VALUE}) {
                refused.go(call.replace("#", "" + wrong) + " -> " + refusal);
            }
            refused.go(call.replace("#", "" + least) + " -> " + forLeast);
        });
    }

    void due(String call, long want, long got) {
        if (got != want) {
            faults.add(call + " answered " + got + ", due is " + want);
        }
    }

    void fault(String what) {
        faults.add(what);
    }

    boolean end() {
        System.out.println("tests: " + passed + " passed, " + failed + " failed");
        return failed == 0 && passed > 0;
    }
}
