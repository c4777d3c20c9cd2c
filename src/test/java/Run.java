import java.util.ArrayList;
import java.util.List;

/**
 * A run of calls on a new object. A call and what it is due to answer is told as "loss(0, 10, 5) -> 0", or as
 * "loss(3, 0, 0) -> argument" if it is due to throw an IllegalArgumentException ("index": an
 * IndexOutOfBoundsException, "state": an IllegalStateException). A call without an arrow may answer what it
 * likes, but not throw. Calls are parted by ; or stand in lines of their own.
 */
final class Run {
    static final int MOST_CALLS = 512;

    private final Suite t;
    private final Stormbond x = new Stormbond();
    private final List<String> told = new ArrayList<>();
    private List<String> ahead;
    private int made;

    Run(Suite t) {
        this.t = t;
    }

    Run go(String calls) {
        for (String line : calls.split("[;\n]")) {
            if (!line.isBlank()) {
                one(line.trim());
            }
        }
        return this;
    }

    private void one(String line) {
        int arrow = line.indexOf(" -> ");
        String call = arrow < 0 ? line : line.substring(0, arrow);
        String got = Calls.answer(x, call);
        made++;
        if (made > MOST_CALLS) {
            t.fault("the test itself makes more than 512 calls");
        }
        if (arrow < 0) {
            isTold(call, got);
            return;
        }
        String want = line.substring(arrow + 4).trim();
        if (!want.equals(got)) {
            t.fault(call + " answered " + got + ", due is " + want);
        }
        if (Calls.REFUSALS.contains(want)) {
            changesNothing(call);
        } else {
            keep(call);
        }
    }

    private void isTold(String call, String got) {
        if (!got.matches("-?[0-9]+")) {
            t.fault(call + " answered " + got + ", due is a number");
        }
        keep(call);
    }

    private void keep(String call) {
        if (!Calls.isQuestion(call)) {
            told.add(call);
            ahead = null;
        }
    }

    /** "A call that throws an exception changes nothing": what is answered is the same with it and without. */
    private void changesNothing(String call) {
        if (ahead == null) {
            ahead = Answers.behind(told, null);
        }
        List<String> behind = Answers.behind(told, call);
        for (int i = 0; i < behind.size(); i++) {
            if (!behind.get(i).equals(ahead.get(i))) {
                t.fault("behind " + call + " " + behind.get(i) + ", ahead of it " + ahead.get(i));
                return;
            }
        }
    }
}
