import java.util.ArrayList;
import java.util.List;

/** Runs named tests and counts them; a test fails if one of its answers is not the one that is due. */
final class Suite {
    interface Body {
        void run(Suite t) throws Exception;
    }

    interface Call {
        long get() throws Exception;
    }

    private final List<String> faults = new ArrayList<>();
    private int passed;
    private int failed;

    void test(String name, Body body) {
        faults.clear();
        try {
            body.run(this);
        } catch (Exception e) {
            faults.add("the test itself ended with " + e);
        }
        if (faults.isEmpty()) {
            passed++;
            return;
        }
        failed++;
        System.out.println("FAILED: " + name);
        for (int i = 0; i < faults.size() && i < 20; i++) {
            System.out.println("    " + faults.get(i));
        }
    }

    void due(String call, long want, long got) {
        if (got != want) {
            faults.add(call + " answered " + got + ", due is " + want);
        }
    }

    void fault(String what) {
        faults.add(what);
    }

    /** The call throws just this class, and what the object answers is the same behind it. */
    void refuses(Class<? extends Exception> want, Stormbond x, String call, Call body) {
        long[] ahead = Answers.of(x);
        try {
            long got = body.get();
            faults.add(call + " answered " + got + ", due is " + want.getSimpleName());
        } catch (Exception e) {
            if (e.getClass() != want) {
                faults.add(call + " threw " + e + ", due is " + want.getSimpleName());
            }
        }
        if (!java.util.Arrays.equals(ahead, Answers.of(x))) {
            faults.add(call + " changed something");
        }
    }

    void refusesIndex(Stormbond x, String call, Call body) {
        refuses(IndexOutOfBoundsException.class, x, call, body);
    }

    void refusesArgument(Stormbond x, String call, Call body) {
        refuses(IllegalArgumentException.class, x, call, body);
    }

    void refusesState(Stormbond x, String call, Call body) {
        refuses(IllegalStateException.class, x, call, body);
    }

    boolean end() {
        System.out.println("tests: " + passed + " passed, " + failed + " failed");
        return failed == 0 && passed > 0;
    }
}
