import java.util.ArrayList;
import java.util.List;

/** All that can be asked of an object without changing it. */
final class Answers {
    private Answers() {
    }

    static long[] of(Stormbond x) {
        List<Long> all = new ArrayList<>();
        for (int what = 0; what < 8; what++) {
            int w = what;
            all.add(orThrown(() -> x.sum(w)));
            for (int o = 0; o < 8; o++) {
                int occurrence = o;
                all.add(orThrown(() -> x.occurrence(occurrence, w)));
                for (int l = 0; l < 5; l++) {
                    int layer = l;
                    all.add(orThrown(() -> x.hit(layer, occurrence, w)));
                }
                all.add(orThrown(() -> x.reinsurer(occurrence, w)));
                all.add(orThrown(() -> x.ofBond(occurrence, w)));
            }
        }
        all.add((long) x.rounds());
        all.add((long) x.basis());
        all.add((long) x.hour());
        for (int k = 0; k < 3; k++) {
            int third = k;
            all.add(orThrown(() -> x.best(third)));
            all.add(orThrown(() -> x.bestAnew(third)));
            for (int l = 0; l < 5; l++) {
                int layer = l;
                all.add(orThrown(() -> x.price(layer, third)));
                all.add(orThrown(() -> x.tail(layer, third, 0)));
                all.add(orThrown(() -> x.tail(layer, third, 40)));
                all.add(orThrown(() -> x.dearest(layer, third == 1)));
            }
        }
        long[] row = new long[all.size()];
        for (int i = 0; i < row.length; i++) {
            row[i] = all.get(i);
        }
        return row;
    }

    static final long INDEX = Long.MIN_VALUE + 1;
    static final long ARGUMENT = Long.MIN_VALUE + 2;
    static final long STATE = Long.MIN_VALUE + 3;
    static final long OTHER = Long.MIN_VALUE + 4;

    /** The answer, or a number that stands for what was thrown. */
    static long orThrown(Suite.Call call) {
        try {
            return call.get();
        } catch (Exception e) {
            if (e.getClass() == IndexOutOfBoundsException.class) {
                return INDEX;
            }
            if (e.getClass() == IllegalArgumentException.class) {
                return ARGUMENT;
            }
            return e.getClass() == IllegalStateException.class ? STATE : OTHER;
        }
    }
}
