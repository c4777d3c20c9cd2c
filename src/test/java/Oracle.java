import java.math.BigInteger;
import java.util.ArrayList;
import java.util.Comparator;
import java.util.List;
import java.util.TreeSet;

/** The document told once more, HOUR by HOUR and without care for speed, for runs at random. */
final class Oracle {
    private record Loss(int peril, int hour, int[] units) {
    }

    private record Window(int peril, int first, int last) {
        boolean holds(int p, int h) {
            return p == peril && first <= h && h <= last;
        }
    }

    private record Layer(int floor, int depth, int share, int reinstatements, int premium, int rate, int[] parts) {
    }

    private record Retro(int to, int floor, int depth) {
    }

    private record Reading(int station, int hour, int peril, int strength) {
    }

    private record Bond(int principal, int peril, int box, int first, int last, int trigger, int percent,
        int[] extra) {
    }

    private record Scenario(int weight, int units) {
    }

    private record Hit(int hit, int pays, int reinstated, int charge, int left) {
    }

    private final List<Loss> losses = new ArrayList<>();
    private final List<Window> windows = new ArrayList<>();
    private final List<Layer> layers = new ArrayList<>();
    private final Retro[] retros = new Retro[6];
    private final List<Integer> cells = new ArrayList<>();
    private final Integer[] failed = new Integer[6];
    private final List<Reading> readings = new ArrayList<>();
    private final List<Bond> bonds = new ArrayList<>();
    private final List<List<Scenario>> models = List.of(new ArrayList<>(), new ArrayList<>(), new ArrayList<>());
    private int quota;
    private int now;

    private static void index(boolean right) {
        if (!right) {
            throw new IndexOutOfBoundsException();
        }
    }

    private static void argument(boolean right) {
        if (!right) {
            throw new IllegalArgumentException();
        }
    }

    private static void state(boolean right) {
        if (!right) {
            throw new IllegalStateException();
        }
    }

    private static boolean in(int x, int least, int most) {
        return least <= x && x <= most;
    }

    private static int clause(int peril) {
        return new int[] {72, 168, 168}[peril];
    }

    private static int part(long percent, long of) {
        return BigInteger.valueOf(percent).multiply(BigInteger.valueOf(of)).divide(BigInteger.valueOf(100)).intValue();
    }

    long loss(int peril, int hour, int units) {
        argument(in(peril, 0, 2) && in(hour, 0, 2199) && in(units, 0, 99999));
        state(losses.size() < 40);
        losses.add(new Loss(peril, hour, new int[] {units}));
        return losses.size() - 1;
    }

    long creep(int loss, int units) {
        index(in(loss, 0, losses.size() - 1));
        argument(in(units, 0, 99999));
        int was = losses.get(loss).units[0];
        losses.get(loss).units[0] = units;
        return was;
    }

    long choose(int peril, int first, int last) {
        argument(in(peril, 0, 2) && in(first, 0, 2199) && in(last, first, 2199));
        argument(last - first + 1 <= clause(peril));
        state(windows.size() < 8);
        for (int h = first; h <= last; h++) {
            for (Window w : windows) {
                state(!w.holds(peril, h));
            }
        }
        windows.add(new Window(peril, first, last));
        return windows.size() - 1;
    }

    long unchoose() {
        state(!windows.isEmpty());
        windows.remove(windows.size() - 1);
        return windows.size();
    }

    long quota(int percent) {
        argument(in(percent, 0, 90));
        int was = quota;
        quota = percent;
        return was;
    }

    long layer(int floor, int depth, int share, int reinstatements, int premium, int rate) {
        argument(in(floor, 0, 999999) && in(depth, 1, 999999) && in(share, 1, 100));
        argument(in(reinstatements, 0, 3) && in(premium, 0, 99999) && in(rate, 0, 150));
        state(layers.size() < 5);
        layers.add(new Layer(floor, depth, share, reinstatements, premium, rate, new int[6]));
        return layers.size() - 1;
    }

    long part(int layer, int reinsurer, int percent) {
        index(in(layer, 0, layers.size() - 1) && in(reinsurer, 0, 5));
        argument(in(percent, 0, 100));
        int[] then = layers.get(layer).parts.clone();
        then[reinsurer] = percent;
        int together = 0;
        for (int p : then) {
            together += p;
        }
        state(together <= 100);
        layers.get(layer).parts[reinsurer] = percent;
        return 100 - together;
    }

    long retro(int reinsurer, int to, int floor, int depth) {
        index(in(reinsurer, 0, 5) && in(to, 0, 5));
        argument(reinsurer != to && in(floor, 0, 999999) && in(depth, 0, 999999));
        int was = retros[reinsurer] == null ? 0 : retros[reinsurer].depth;
        retros[reinsurer] = depth == 0 ? null : new Retro(to, floor, depth);
        return was;
    }

    long station(int cell) {
        argument(in(cell, 0, 15));
        state(cells.size() < 6);
        cells.add(cell);
        return cells.size() - 1;
    }

    long reading(int station, int hour, int peril, int strength) {
        index(in(station, 0, cells.size() - 1));
        argument(in(hour, 0, 2199) && in(peril, 0, 2) && in(strength, 0, 9));
        state(readings.size() < 60);
        readings.add(new Reading(station, hour, peril, strength));
        return readings.size();
    }

    private boolean counts(Reading r) {
        return failed[r.station] == null || r.hour < failed[r.station];
    }

    long fails(int station, int hour) {
        index(in(station, 0, cells.size() - 1));
        argument(in(hour, 0, 2199));
        state(failed[station] == null);
        failed[station] = hour;
        return readings.stream().filter(r -> r.station == station && counts(r)).count();
    }

    long bond(int principal, int peril, int box, int first, int last, int trigger, int percent) {
        argument(in(principal, 1, 999999) && in(peril, 0, 2) && in(box, 1, 65535));
        argument(in(first, 0, 2199) && in(last, first, 2199) && in(trigger, 1, 9) && in(percent, 1, 100));
        state(bonds.size() < 5 && now <= last);
        bonds.add(new Bond(principal, peril, box, first, last, trigger, percent, new int[] {0}));
        return bonds.size() - 1;
    }

    private boolean trust(Bond b) {
        return now <= b.last + b.extra[0];
    }

    long extend(int bond, int hours) {
        index(in(bond, 0, bonds.size() - 1));
        argument(in(hours, 1, 500));
        Bond b = bonds.get(bond);
        state(b.extra[0] == 0 && trust(b));
        b.extra[0] = hours;
        return b.last + hours;
    }

    long pass(int hours) {
        argument(in(hours, 1, 500));
        state(now + hours <= 2199);
        now += hours;
        return now;
    }

    long scenario(int model, int weight, int units) {
        index(in(model, 0, 2));
        argument(in(weight, 1, 99) && in(units, 0, 999999));
        state(models.get(model).size() < 12);
        models.get(model).add(new Scenario(weight, units));
        return models.get(model).size();
    }

    private int ground(Window w) {
        int units = 0;
        for (int h = w.first; h <= w.last; h++) {
            for (Loss l : losses) {
                units += l.hour == h && l.peril == w.peril ? l.units[0] : 0;
            }
        }
        return units;
    }

    private int net(int ground) {
        return ground - part(quota, ground);
    }

    private List<Integer> order() {
        List<Integer> all = new ArrayList<>();
        for (int i = 0; i < windows.size(); i++) {
            all.add(i);
        }
        Comparator<Integer> byFirst = Comparator.comparing(i -> windows.get(i).first);
        all.sort(byFirst.thenComparing(i -> windows.get(i).peril));
        return all;
    }

    private Hit hitOf(Layer l, int wanted) {
        int used = 0;
        for (int o : order()) {
            int above = Math.max(0, net(ground(windows.get(o))) - l.floor);
            int all = l.depth * (1 + l.reinstatements);
            int hit = Math.min(Math.min(above, l.depth), all - used);
            int notYet = Math.max(0, l.depth * l.reinstatements - used);
            used += hit;
            if (o == wanted) {
                int again = Math.min(hit, notYet);
                BigInteger charge = BigInteger.valueOf(l.premium).multiply(BigInteger.valueOf(again))
                    .multiply(BigInteger.valueOf(l.rate))
                    .divide(BigInteger.valueOf(l.depth).multiply(BigInteger.valueOf(100)));
                return new Hit(hit, part(l.share, hit), again, charge.intValue(), all - used);
            }
        }
        throw new IllegalArgumentException();
    }

    long occurrence(int occurrence, int what) {
        index(in(occurrence, 0, windows.size() - 1));
        argument(in(what, 0, 5));
        int ground = ground(windows.get(occurrence));
        long pays = 0;
        long charges = 0;
        for (Layer l : layers) {
            pays += hitOf(l, occurrence).pays;
            charges += hitOf(l, occurrence).charge;
        }
        return new long[] {ground, part(quota, ground), net(ground), pays, charges,
            order().indexOf(occurrence)}[what];
    }

    long hit(int layer, int occurrence, int what) {
        index(in(layer, 0, layers.size() - 1) && in(occurrence, 0, windows.size() - 1));
        argument(in(what, 0, 4));
        Hit h = hitOf(layers.get(layer), occurrence);
        return new long[] {h.hit, h.pays, h.reinstated, h.charge, h.left}[what];
    }

    private long[] direct() {
        long[] all = new long[6];
        for (int o = 0; o < windows.size(); o++) {
            all[0] += part(quota, ground(windows.get(o)));
            for (Layer l : layers) {
                for (int r = 0; r < 6; r++) {
                    all[r] += part(l.parts[r], hitOf(l, o).pays);
                }
            }
        }
        return all;
    }

    long sum(int what) {
        argument(in(what, 0, 7));
        long all = 0;
        long outside = 0;
        for (Loss l : losses) {
            all += l.units[0];
            outside += windows.stream().anyMatch(w -> w.holds(l.peril, l.hour)) ? 0 : l.units[0];
        }
        long ceded = 0;
        long pays = 0;
        long unborne = 0;
        long charges = 0;
        for (int o = 0; o < windows.size(); o++) {
            ceded += part(quota, ground(windows.get(o)));
            for (Layer l : layers) {
                Hit h = hitOf(l, o);
                pays += h.pays;
                charges += h.charge;
                unborne += h.pays;
                for (int p : l.parts) {
                    unborne -= part(p, h.pays);
                }
            }
        }
        long borne = 0;
        for (long d : direct()) {
            borne += d;
        }
        return new long[] {all, outside, ceded, pays, unborne, charges, all - borne + charges, borne}[what];
    }

    private long passed(int r, long[] had) {
        Retro retro = retros[r];
        return retro == null || had[r] <= retro.floor ? 0 : Math.min(retro.depth, had[r] - retro.floor);
    }

    private List<long[]> spiral() {
        List<long[]> all = new ArrayList<>();
        long[] direct = direct();
        all.add(direct.clone());
        while (all.size() <= 40) {
            long[] had = all.get(all.size() - 1);
            long[] then = direct.clone();
            for (int r = 0; r < 6; r++) {
                if (retros[r] != null) {
                    then[retros[r].to] += passed(r, had);
                }
            }
            all.add(then);
            if (java.util.Arrays.equals(had, then)) {
                break;
            }
        }
        return all;
    }

    long reinsurer(int reinsurer, int what) {
        index(in(reinsurer, 0, 5));
        argument(in(what, 0, 2));
        List<long[]> all = spiral();
        long[] end = all.get(all.size() - 1);
        return new long[] {all.get(0)[reinsurer], end[reinsurer], end[reinsurer] - passed(reinsurer, end)}[what];
    }

    long rounds() {
        return spiral().size() - 1;
    }

    private int fresh(Layer l, int ground) {
        return part(l.share, Math.min(l.depth, Math.max(0, net(ground) - l.floor)));
    }

    long best(int peril) {
        argument(in(peril, 0, 2));
        int[] at = new int[2200];
        for (Loss l : losses) {
            at[l.hour] += l.peril == peril ? l.units[0] : 0;
        }
        java.util.HashMap<Integer, Integer> known = new java.util.HashMap<>();
        long[] most = new long[2201];
        for (int end = 1; end <= 2200; end++) {
            most[end] = most[end - 1];
            int units = 0;
            for (int first = end - 1; first >= 0 && end - first <= clause(peril); first--) {
                units += at[first];
                int pays = known.computeIfAbsent(units, g -> layers.stream().mapToInt(l -> fresh(l, g)).sum());
                most[end] = Math.max(most[end], most[first] + pays);
            }
        }
        return most[2200];
    }

    long bestAnew(int peril) {
        argument(in(peril, 0, 2));
        state(losses.stream().filter(l -> l.peril == peril).map(l -> l.hour).distinct().count() <= 7);
        return best(peril);
    }

    private boolean fallen(int s, Bond b) {
        return failed[s] != null && failed[s] <= b.last;
    }

    private static boolean inBox(int cell, Bond b) {
        return (b.box & 1 << cell) != 0;
    }

    private int standIn(Bond b) {
        List<Integer> able = new ArrayList<>();
        for (int s = 0; s < cells.size(); s++) {
            if (!fallen(s, b)) {
                able.add(s);
            }
        }
        if (able.stream().anyMatch(s -> inBox(cells.get(s), b))) {
            return -1;
        }
        for (int distance = 1; distance <= 6; distance++) {
            for (int s : able) {
                for (int c = 0; c < 16; c++) {
                    int far = Math.abs(c / 4 - cells.get(s) / 4) + Math.abs(c % 4 - cells.get(s) % 4);
                    if (inBox(c, b) && far == distance) {
                        return s;
                    }
                }
            }
        }
        return -1;
    }

    private int indexOf(Bond b) {
        int standIn = standIn(b);
        return readings.stream()
            .filter(r -> r.peril == b.peril && in(r.hour, b.first, b.last) && counts(r))
            .filter(r -> standIn < 0 ? inBox(cells.get(r.station), b) : r.station == standIn)
            .mapToInt(r -> r.strength).max().orElse(0);
    }

    private int payout(Bond b) {
        int index = indexOf(b);
        if (index < b.trigger) {
            return 0;
        }
        int left = b.principal - part(b.percent, b.principal);
        for (int k = b.trigger; k < index; k++) {
            left -= left / 2;
        }
        return b.principal - left;
    }

    long ofBond(int bond, int what) {
        index(in(bond, 0, bonds.size() - 1));
        argument(in(what, 0, 5));
        Bond b = bonds.get(bond);
        boolean trust = trust(b);
        return new long[] {indexOf(b), payout(b), trust ? 1 : 0, trust ? 0 : payout(b),
            trust ? 0 : b.principal - payout(b), standIn(b)}[what];
    }

    long basis() {
        return bonds.stream().mapToLong(this::payout).sum() - sum(6);
    }

    private long weights(int model) {
        return models.get(model).stream().mapToLong(s -> s.weight).sum();
    }

    private long weighed(int model, Layer l) {
        return models.get(model).stream().mapToLong(s -> (long) s.weight * fresh(l, s.units)).sum();
    }

    long price(int layer, int model) {
        index(in(layer, 0, layers.size() - 1) && in(model, 0, 2));
        state(!models.get(model).isEmpty());
        return BigInteger.valueOf(1000).multiply(BigInteger.valueOf(weighed(model, layers.get(layer))))
            .divide(BigInteger.valueOf(weights(model))).longValueExact();
    }

    long tail(int layer, int model, int percent) {
        index(in(layer, 0, layers.size() - 1) && in(model, 0, 2));
        argument(in(percent, 0, 99));
        state(!models.get(model).isEmpty());
        Layer l = layers.get(layer);
        TreeSet<Integer> bounds = new TreeSet<>();
        bounds.add(0);
        models.get(model).forEach(s -> bounds.add(fresh(l, s.units)));
        for (int bound : bounds) {
            long above = models.get(model).stream().filter(s -> fresh(l, s.units) > bound)
                .mapToLong(s -> s.weight).sum();
            if (above * 100 <= percent * weights(model)) {
                return bound;
            }
        }
        throw new IllegalArgumentException();
    }

    long dearest(int layer, boolean isBits) {
        index(in(layer, 0, layers.size() - 1));
        int dearest = -1;
        double greatest = 0;
        for (int m = 2; m >= 0; m--) {
            if (!models.get(m).isEmpty()) {
                double q = (double) weighed(m, layers.get(layer)) / (double) weights(m);
                if (dearest < 0 || q >= greatest) {
                    dearest = m;
                    greatest = q;
                }
            }
        }
        return dearest < 0 || !isBits ? dearest : Double.doubleToRawLongBits(greatest);
    }

    long hour() {
        return now;
    }
}
