import java.util.ArrayList;
import java.util.List;

/** All that objects answer that were told the same calls: what can be asked, and what telling more answers. */
final class Answers {
    private static final List<String> QUESTIONS = questions();
    private static final List<String> TELLINGS = tellings();

    private Answers() {
    }

    static List<String> allQuestions() {
        return QUESTIONS;
    }

    /**
     * An object is good for 512 calls, so that several are made, each told the same and then asked a part of
     * it all. There is room for one more call in each, so that the parts are the same with it and without.
     */
    static List<String> behind(List<String> told, String oneMore) {
        List<String> all = new ArrayList<>();
        addBehind(told, oneMore, QUESTIONS, all);
        addBehind(told, oneMore, TELLINGS, all);
        return all;
    }

    private static void addBehind(List<String> told, String oneMore, List<String> calls, List<String> all) {
        int room = Run.MOST_CALLS - told.size() - 1;
        for (int from = 0; from < calls.size(); from += room) {
            Stormbond x = new Stormbond();
            for (String call : told) {
                Calls.answer(x, call);
            }
            if (oneMore != null) {
                Calls.answer(x, oneMore);
            }
            for (String call : calls.subList(from, Math.min(calls.size(), from + room))) {
                all.add(call + " answers " + Calls.answer(x, call));
            }
        }
    }

    private static void add(List<String> all, String call, int... counts) {
        if (counts.length == 0) {
            all.add(call);
            return;
        }
        for (int i = 0; i < counts[0]; i++) {
            int[] rest = java.util.Arrays.copyOfRange(counts, 1, counts.length);
            add(all, call.replaceFirst("#", Integer.toString(i)), rest);
        }
    }

    private static List<String> questions() {
        List<String> all = new ArrayList<>();
        add(all, "sum(#)", 8);
        add(all, "occurrence(#, #)", 8, 6);
        add(all, "hit(#, #, #)", 5, 8, 5);
        add(all, "reinsurer(#, #)", 6, 3);
        add(all, "rounds()");
        add(all, "basis()");
        add(all, "hour()");
        add(all, "best(#)", 3);
        add(all, "bestAnew(#)", 3);
        add(all, "ofBond(#, #)", 5, 6);
        add(all, "price(#, #)", 5, 3);
        for (int percent : new int[] {0, 10, 40, 99}) {
            add(all, "tail(#, #, " + percent + ")", 5, 3);
        }
        add(all, "dearest(#, false)", 5);
        add(all, "dearest(#, true)", 5);
        return all;
    }

    /** Each of these answers something that no question tells: how many there are, what was ahead. */
    private static List<String> tellings() {
        List<String> all = new ArrayList<>();
        all.add("quota(0)");
        add(all, "part(#, #, 0)", 5, 6);
        for (int reinsurer = 0; reinsurer < 6; reinsurer++) {
            all.add("retro(" + reinsurer + ", " + (reinsurer + 1) % 6 + ", 0, 0)");
        }
        add(all, "creep(#, 0)", 40);
        add(all, "fails(#, 0)", 6);
        add(all, "extend(#, 1)", 5);
        all.add("bond(1, 0, 1, 2199, 2199, 1, 1)");
        all.add("unchoose()");
        all.add("choose(0, 2199, 2199)");
        all.add("loss(0, 0, 0)");
        all.add("layer(0, 1, 1, 0, 0, 0)");
        all.add("station(0)");
        all.add("reading(0, 0, 0, 0)");
        add(all, "scenario(#, 1, 0)", 3);
        all.add("pass(1)");
        return all;
    }
}
