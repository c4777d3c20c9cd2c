/** Risks of the sky sold in slices: a tower of layers, its reinsurers, bonds by stations, and models. */
public final class Stormbond {
    public static final int NONE = -1;
    public static final int WIND = 0, FLOOD = 1, QUAKE = 2;

    private static final int LAST_HOUR = 2199;
    private static final int LAST_CELL = 15;
    private static final int CELLS_IN_ROW = 4;
    private static final int FARTHEST = 6;
    private static final int ALL_CELLS = 65535;
    private static final int WIND_CLAUSE = 72;
    private static final int OTHER_CLAUSE = 168;
    private static final int MOST_LOSSES = 40;
    private static final int MOST_OCCURRENCES = 8;
    private static final int MOST_LAYERS = 5;
    private static final int REINSURERS = 6;
    private static final int MOST_STATIONS = 6;
    private static final int MOST_READINGS = 60;
    private static final int MOST_BONDS = 5;
    private static final int MODELS = 3;
    private static final int MOST_SCENARIOS = 12;
    private static final int MOST_ROUNDS = 40;
    private static final int MOST_HOURS_ANEW = 7;
    private static final int MOST_LOSS_UNITS = 99999;
    private static final int MOST_PREMIUM = 99999;
    private static final int MOST_UNITS = 999999;
    private static final int MOST_STRENGTH = 9;
    private static final int MOST_HOURS_AT_ONCE = 500;
    private static final int PERCENT = 100;
    private static final int NEVER = LAST_HOUR + 1;

    private final Losses losses = new Losses();
    private final Windows windows = new Windows();
    private final Tower tower = new Tower();
    private final Settlement settlement = new Settlement();
    private final Reinsurers reinsurers = new Reinsurers();
    private final BestWindows bestWindows = new BestWindows();
    private final Stations stations = new Stations();
    private final Bonds bonds = new Bonds();
    private final Models models = new Models();
    private int now;

    public Stormbond() {
    }

    // ---- losses, occurrences

    public int loss(int peril, int hour, int units) throws IllegalArgumentException, IllegalStateException {
        if (!isPeril(peril) || !isHour(hour) || !isIn(units, 0, MOST_LOSS_UNITS)) {
            throw new IllegalArgumentException("peril, hour or units is out of range");
        }
        if (losses.isFull()) {
            throw new IllegalStateException("there are 40 LOSSES");
        }
        return losses.add(peril, hour, units);
    }

    public int creep(int loss, int units) throws IndexOutOfBoundsException, IllegalArgumentException {
        if (!losses.has(loss)) {
            throw new IndexOutOfBoundsException("there is no such LOSS");
        }
        if (!isIn(units, 0, MOST_LOSS_UNITS)) {
            throw new IllegalArgumentException("units is out of range");
        }
        return losses.change(loss, units);
    }

    public int choose(int peril, int first, int last) throws IllegalArgumentException, IllegalStateException {
        if (!isPeril(peril) || !isSpan(first, last) || last - first >= clauseOf(peril)) {
            throw new IllegalArgumentException("peril, first or last is out of range, or the window is too long");
        }
        if (windows.isFull() || windows.hasInCommon(peril, first, last)) {
            throw new IllegalStateException("there are 8 OCCURRENCES, or one has an HOUR in common");
        }
        return windows.add(peril, first, last);
    }

    public int unchoose() throws IllegalStateException {
        if (windows.isEmpty()) {
            throw new IllegalStateException("there is no OCCURRENCE");
        }
        return windows.removeLast();
    }

    // ---- covers

    public int quota(int percent) throws IllegalArgumentException {
        if (!isIn(percent, 0, 90)) {
            throw new IllegalArgumentException("percent is out of range");
        }
        return tower.changeQuota(percent);
    }

    public int layer(int floor, int depth, int share, int reinstatements, int premium, int rate)
            throws IllegalArgumentException, IllegalStateException {
        boolean isSpanned = isIn(floor, 0, MOST_UNITS) && isIn(depth, 1, MOST_UNITS) && isIn(share, 1, PERCENT);
        if (!isSpanned || !isIn(reinstatements, 0, 3) || !isIn(premium, 0, MOST_PREMIUM) || !isIn(rate, 0, 150)) {
            throw new IllegalArgumentException("an argument is out of range");
        }
        if (tower.isFull()) {
            throw new IllegalStateException("there are 5 LAYERS");
        }
        return tower.add(floor, depth, share, reinstatements, premium, rate);
    }

    public int part(int layer, int reinsurer, int percent)
            throws IndexOutOfBoundsException, IllegalArgumentException, IllegalStateException {
        if (!tower.has(layer) || !isReinsurer(reinsurer)) {
            throw new IndexOutOfBoundsException("there is no such LAYER or REINSURER");
        }
        if (!isIn(percent, 0, PERCENT)) {
            throw new IllegalArgumentException("percent is out of range");
        }
        if (reinsurers.placedBeside(layer, reinsurer) + percent > PERCENT) {
            throw new IllegalStateException("PARTS would be above 100 together");
        }
        return reinsurers.place(layer, reinsurer, percent);
    }

    public int retro(int reinsurer, int to, int floor, int depth)
            throws IndexOutOfBoundsException, IllegalArgumentException {
        if (!isReinsurer(reinsurer) || !isReinsurer(to)) {
            throw new IndexOutOfBoundsException("there is no such REINSURER");
        }
        if (reinsurer == to || !isIn(floor, 0, MOST_UNITS) || !isIn(depth, 0, MOST_UNITS)) {
            throw new IllegalArgumentException("both are the same, or floor or depth is out of range");
        }
        return reinsurers.changeRetro(reinsurer, to, floor, depth);
    }

    // ---- stations, bonds, hours

    public int station(int cell) throws IllegalArgumentException, IllegalStateException {
        if (!isIn(cell, 0, LAST_CELL)) {
            throw new IllegalArgumentException("cell is out of range");
        }
        if (stations.isFull()) {
            throw new IllegalStateException("there are 6 STATIONS");
        }
        return stations.add(cell);
    }

    public int reading(int station, int hour, int peril, int strength)
            throws IndexOutOfBoundsException, IllegalArgumentException, IllegalStateException {
        if (!stations.has(station)) {
            throw new IndexOutOfBoundsException("there is no such STATION");
        }
        if (!isHour(hour) || !isPeril(peril) || !isIn(strength, 0, MOST_STRENGTH)) {
            throw new IllegalArgumentException("hour, peril or strength is out of range");
        }
        if (stations.isFullOfReadings()) {
            throw new IllegalStateException("there are 60 READINGS");
        }
        return stations.addReading(station, hour, peril, strength);
    }

    public int fails(int station, int hour)
            throws IndexOutOfBoundsException, IllegalArgumentException, IllegalStateException {
        if (!stations.has(station)) {
            throw new IndexOutOfBoundsException("there is no such STATION");
        }
        if (!isHour(hour)) {
            throw new IllegalArgumentException("hour is out of range");
        }
        if (stations.hasFailedBy(station, LAST_HOUR)) {
            throw new IllegalStateException("that was told of it before");
        }
        return stations.failFrom(station, hour);
    }

    public int bond(int principal, int peril, int box, int first, int last, int trigger, int percent)
            throws IllegalArgumentException, IllegalStateException {
        boolean isCovered = isPeril(peril) && isIn(box, 1, ALL_CELLS) && isSpan(first, last);
        boolean isPaying = isIn(trigger, 1, MOST_STRENGTH) && isIn(percent, 1, PERCENT);
        if (!isIn(principal, 1, MOST_UNITS) || !isCovered || !isPaying) {
            throw new IllegalArgumentException("an argument is out of range");
        }
        if (bonds.isFull() || last < now) {
            throw new IllegalStateException("there are 5 BONDS, or the last HOUR has passed");
        }
        return bonds.add(principal, peril, box, first, last, trigger, percent);
    }

    public int extend(int bond, int hours)
            throws IndexOutOfBoundsException, IllegalArgumentException, IllegalStateException {
        if (!bonds.has(bond)) {
            throw new IndexOutOfBoundsException("there is no such BOND");
        }
        if (!isIn(hours, 1, MOST_HOURS_AT_ONCE)) {
            throw new IllegalArgumentException("hours is out of range");
        }
        if (bonds.isExtended(bond) || !bonds.isInTrust(bond, now)) {
            throw new IllegalStateException("it was extended, or is not in TRUST any more");
        }
        return bonds.lengthen(bond, hours);
    }

    public int pass(int hours) throws IllegalArgumentException, IllegalStateException {
        if (!isIn(hours, 1, MOST_HOURS_AT_ONCE)) {
            throw new IllegalArgumentException("hours is out of range");
        }
        if (now + hours > LAST_HOUR) {
            throw new IllegalStateException("it would be above 2199");
        }
        now += hours;
        return now;
    }

    public int scenario(int model, int weight, int units)
            throws IndexOutOfBoundsException, IllegalArgumentException, IllegalStateException {
        if (!isModel(model)) {
            throw new IndexOutOfBoundsException("there is no such MODEL");
        }
        if (!isIn(weight, 1, 99) || !isIn(units, 0, MOST_UNITS)) {
            throw new IllegalArgumentException("weight or units is out of range");
        }
        if (models.isFull(model)) {
            throw new IllegalStateException("it has 12 SCENARIOS");
        }
        return models.add(model, weight, units);
    }

    // ---- what is due and kept

    public int occurrence(int occurrence, int what) throws IndexOutOfBoundsException, IllegalArgumentException {
        if (!windows.has(occurrence)) {
            throw new IndexOutOfBoundsException("there is no such OCCURRENCE");
        }
        if (!isIn(what, 0, 5)) {
            throw new IllegalArgumentException("what is out of range");
        }
        settlement.settle(losses, windows, tower);
        return settlement.ofOccurrence(occurrence, what);
    }

    public int hit(int layer, int occurrence, int what) throws IndexOutOfBoundsException, IllegalArgumentException {
        if (!tower.has(layer) || !windows.has(occurrence)) {
            throw new IndexOutOfBoundsException("there is no such LAYER or OCCURRENCE");
        }
        if (!isIn(what, 0, 4)) {
            throw new IllegalArgumentException("what is out of range");
        }
        settlement.settle(losses, windows, tower);
        return settlement.ofLayer(layer, occurrence, what);
    }

    public int sum(int what) throws IllegalArgumentException {
        if (!isIn(what, 0, 7)) {
            throw new IllegalArgumentException("what is out of range");
        }
        settleAll();
        switch (what) {
            case 0:
                return losses.total();
            case 1:
                return losses.total() - settlement.totalGround();
            case 2:
                return settlement.totalQuota();
            case 3:
                return settlement.totalPaid();
            case 4:
                return settlement.totalQuota() + settlement.totalPaid() - reinsurers.totalBorne();
            case 5:
                return settlement.totalCharged();
            case 6:
                return keptOfAll();
            default:
                return reinsurers.totalBorne();
        }
    }

    public int reinsurer(int reinsurer, int what) throws IndexOutOfBoundsException, IllegalArgumentException {
        if (!isReinsurer(reinsurer)) {
            throw new IndexOutOfBoundsException("there is no such REINSURER");
        }
        if (!isIn(what, 0, 2)) {
            throw new IllegalArgumentException("what is out of range");
        }
        settleAll();
        reinsurers.spin();
        return reinsurers.ofReinsurer(reinsurer, what);
    }

    public int rounds() {
        settleAll();
        return reinsurers.spin();
    }

    // ---- the best windows

    public int best(int peril) throws IllegalArgumentException {
        if (!isPeril(peril)) {
            throw new IllegalArgumentException("peril is out of range");
        }
        bestWindows.gather(losses, peril);
        return bestWindows.mostByTable(tower, clauseOf(peril));
    }

    public int bestAnew(int peril) throws IllegalArgumentException, IllegalStateException {
        if (!isPeril(peril)) {
            throw new IllegalArgumentException("peril is out of range");
        }
        bestWindows.gather(losses, peril);
        if (bestWindows.countHours() > MOST_HOURS_ANEW) {
            throw new IllegalStateException("the LOSSES are at more than 7 HOURS");
        }
        return bestWindows.mostByAllWays(tower, clauseOf(peril));
    }

    // ---- bonds

    public int ofBond(int bond, int what) throws IndexOutOfBoundsException, IllegalArgumentException {
        if (!bonds.has(bond)) {
            throw new IndexOutOfBoundsException("there is no such BOND");
        }
        if (!isIn(what, 0, 5)) {
            throw new IllegalArgumentException("what is out of range");
        }
        boolean isInTrust = bonds.isInTrust(bond, now);
        int index = bonds.indexOf(bond, stations);
        int payout = bonds.payoutAt(bond, index);
        switch (what) {
            case 0:
                return index;
            case 1:
                return payout;
            case 2:
                return isInTrust ? 1 : 0;
            case 3:
                return isInTrust ? 0 : payout;
            case 4:
                return isInTrust ? 0 : bonds.principalOf(bond) - payout;
            default:
                return bonds.standInOf(bond, stations);
        }
    }

    public int basis() {
        settleAll();
        return bonds.totalPayout(stations) - keptOfAll();
    }

    // ---- prices

    public long price(int layer, int model) throws IndexOutOfBoundsException, IllegalStateException {
        if (!tower.has(layer) || !isModel(model)) {
            throw new IndexOutOfBoundsException("there is no such LAYER or MODEL");
        }
        int weights = models.totalWeight(model);
        if (weights < 1) {
            throw new IllegalStateException("the MODEL has no SCENARIOS");
        }
        return 1000L * models.weighedPay(model, tower, layer) / weights;
    }

    public int tail(int layer, int model, int percent)
            throws IndexOutOfBoundsException, IllegalArgumentException, IllegalStateException {
        if (!tower.has(layer) || !isModel(model)) {
            throw new IndexOutOfBoundsException("there is no such LAYER or MODEL");
        }
        if (!isIn(percent, 0, 99)) {
            throw new IllegalArgumentException("percent is out of range");
        }
        if (models.isEmpty(model)) {
            throw new IllegalStateException("the MODEL has no SCENARIOS");
        }
        return models.leastBound(model, tower, layer, percent);
    }

    public long dearest(int layer, boolean isBits) throws IndexOutOfBoundsException {
        if (!tower.has(layer)) {
            throw new IndexOutOfBoundsException("there is no such LAYER");
        }
        int model = models.dearestFor(tower, layer);
        if (model == NONE || !isBits) {
            return model;
        }
        return bitsOf(models.quotientOf(model, tower, layer));
    }

    public int hour() {
        return now;
    }

    // ---- what the face asks of itself

    private void settleAll() {
        settlement.settle(losses, windows, tower);
        reinsurers.bear(settlement);
    }

    private int keptOfAll() {
        return losses.total() - reinsurers.totalBorne() + settlement.totalCharged();
    }

    private static boolean isIn(int value, int least, int most) {
        return value >= least && value <= most;
    }

    private static boolean isPeril(int peril) {
        return isIn(peril, WIND, QUAKE);
    }

    private static boolean isHour(int hour) {
        return isIn(hour, 0, LAST_HOUR);
    }

    private static boolean isSpan(int first, int last) {
        return isHour(first) && isHour(last) && first <= last;
    }

    private static boolean isReinsurer(int reinsurer) {
        return isIn(reinsurer, 0, REINSURERS - 1);
    }

    private static boolean isModel(int model) {
        return isIn(model, 0, MODELS - 1);
    }

    private static int clauseOf(int peril) {
        return peril == WIND ? WIND_CLAUSE : OTHER_CLAUSE;
    }

    private static int totalOf(int[] row, int count) {
        int total = 0;
        for (int i = 0; i < count && i < row.length; i++) {
            total += row[i];
        }
        return total;
    }

    /**
     * The bits of a double that is 0 or between 1/1188 and 999999, as quotients of MODELS are. The
     * language leaves no call that tells them; to double is exact, so they can be reckoned.
     */
    private static long bitsOf(double quotient) {
        double leastWhole = 4503599627370496.0;
        if (quotient <= 0.0) {
            return 0L;
        }
        double whole = quotient;
        long exponent = 1075;
        for (int i = 0; i < 100 && whole < leastWhole; i++) {
            whole = whole * 2.0;
            exponent--;
        }
        return (exponent << 52) | ((long) whole & ((1L << 52) - 1));
    }

    /** LOSSES by their numbers. */
    private static final class Losses {
        private final int[] perils = new int[MOST_LOSSES];
        private final int[] hours = new int[MOST_LOSSES];
        private final int[] units = new int[MOST_LOSSES];
        private int count;

        boolean has(int loss) {
            return loss >= 0 && loss < count;
        }

        boolean isFull() {
            return count >= MOST_LOSSES;
        }

        int add(int peril, int hour, int amount) {
            perils[count] = peril;
            hours[count] = hour;
            units[count] = amount;
            count++;
            return count - 1;
        }

        int change(int loss, int amount) {
            int before = units[loss];
            units[loss] = amount;
            return before;
        }

        int total() {
            return totalOf(units, count);
        }

        int groundOf(int peril, int first, int last) {
            int ground = 0;
            for (int i = 0; i < count; i++) {
                if (perils[i] == peril && hours[i] >= first && hours[i] <= last) {
                    ground += units[i];
                }
            }
            return ground;
        }
    }

    /** The windows of OCCURRENCES by their numbers. */
    private static final class Windows {
        private final int[] perils = new int[MOST_OCCURRENCES];
        private final int[] firsts = new int[MOST_OCCURRENCES];
        private final int[] lasts = new int[MOST_OCCURRENCES];
        private int count;

        boolean has(int occurrence) {
            return occurrence >= 0 && occurrence < count;
        }

        boolean isFull() {
            return count >= MOST_OCCURRENCES;
        }

        boolean isEmpty() {
            return count <= 0;
        }

        boolean hasInCommon(int peril, int first, int last) {
            for (int i = 0; i < count; i++) {
                if (perils[i] == peril && firsts[i] <= last && lasts[i] >= first) {
                    return true;
                }
            }
            return false;
        }

        int add(int peril, int first, int last) {
            perils[count] = peril;
            firsts[count] = first;
            lasts[count] = last;
            count++;
            return count - 1;
        }

        int removeLast() {
            count--;
            return count;
        }

        int groundOf(int occurrence, Losses losses) {
            return losses.groundOf(perils[occurrence], firsts[occurrence], lasts[occurrence]);
        }

        /** Windows of one PERIL never begin together, so no two of them share a place. */
        int placeOf(int occurrence) {
            int place = 0;
            for (int i = 0; i < count; i++) {
                boolean isWithIt = firsts[i] == firsts[occurrence] && perils[i] < perils[occurrence];
                if (firsts[i] < firsts[occurrence] || isWithIt) {
                    place++;
                }
            }
            return place;
        }
    }

    /** The QUOTA and the LAYERS behind it. */
    private static final class Tower {
        private final int[] floors = new int[MOST_LAYERS];
        private final int[] depths = new int[MOST_LAYERS];
        private final int[] shares = new int[MOST_LAYERS];
        private final int[] reinstatements = new int[MOST_LAYERS];
        private final int[] premiums = new int[MOST_LAYERS];
        private final int[] rates = new int[MOST_LAYERS];
        private int count;
        private int quotaPercent;

        boolean has(int layer) {
            return layer >= 0 && layer < count;
        }

        boolean isFull() {
            return count >= MOST_LAYERS;
        }

        int changeQuota(int percent) {
            int before = quotaPercent;
            quotaPercent = percent;
            return before;
        }

        int add(int floor, int depth, int share, int reinstatement, int premium, int rate) {
            floors[count] = floor;
            depths[count] = depth;
            shares[count] = share;
            reinstatements[count] = reinstatement;
            premiums[count] = premium;
            rates[count] = rate;
            count++;
            return count - 1;
        }

        int quotaOf(int ground) {
            return quotaPercent * ground / PERCENT;
        }

        int fullHit(int layer, int net) {
            int above = net - floors[layer];
            if (above <= 0) {
                return 0;
            }
            return above < depths[layer] ? above : depths[layer];
        }

        int payFor(int layer, int hit) {
            return shares[layer] * hit / PERCENT;
        }

        int restorable(int layer) {
            return depths[layer] * reinstatements[layer];
        }

        int capacity(int layer) {
            return depths[layer] + restorable(layer);
        }

        int chargeFor(int layer, int restored) {
            long divisor = (long) PERCENT * depths[layer];
            if (divisor < 1) {
                return 0;
            }
            return (int) ((long) premiums[layer] * restored * rates[layer] / divisor);
        }

        int freshPay(int layer, int ground) {
            return payFor(layer, fullHit(layer, ground - quotaOf(ground)));
        }

        int freshPayOfAll(int ground) {
            int pay = 0;
            for (int layer = 0; layer < count; layer++) {
                pay += freshPay(layer, ground);
            }
            return pay;
        }
    }

    /** What OCCURRENCES come to; the rows are made once, as a run has only so much room. */
    private static final class Settlement {
        private static final int SLOTS = MOST_LAYERS * MOST_OCCURRENCES;

        private final int[] grounds = new int[MOST_OCCURRENCES];
        private final int[] quotas = new int[MOST_OCCURRENCES];
        private final int[] places = new int[MOST_OCCURRENCES];
        private final int[] paid = new int[MOST_OCCURRENCES];
        private final int[] charged = new int[MOST_OCCURRENCES];
        private final int[] hits = new int[SLOTS];
        private final int[] pays = new int[SLOTS];
        private final int[] restored = new int[SLOTS];
        private final int[] charges = new int[SLOTS];
        private final int[] lefts = new int[SLOTS];
        private int occurrences;
        private int layers;
        private int left;
        private int restorable;

        void settle(Losses losses, Windows windows, Tower tower) {
            occurrences = windows.count;
            layers = tower.count;
            for (int i = 0; i < occurrences; i++) {
                grounds[i] = windows.groundOf(i, losses);
                quotas[i] = tower.quotaOf(grounds[i]);
                paid[i] = 0;
                charged[i] = 0;
                places[i] = windows.placeOf(i);
            }
            for (int layer = 0; layer < layers; layer++) {
                settleLayer(tower, layer);
            }
        }

        private void settleLayer(Tower tower, int layer) {
            left = tower.capacity(layer);
            restorable = tower.restorable(layer);
            for (int place = 0; place < occurrences; place++) {
                for (int i = 0; i < occurrences; i++) {
                    if (places[i] == place) {
                        settleOne(tower, layer, i);
                    }
                }
            }
        }

        private void settleOne(Tower tower, int layer, int occurrence) {
            int slot = slotOf(layer, occurrence);
            hits[slot] = Math.min(tower.fullHit(layer, netOf(occurrence)), left);
            pays[slot] = tower.payFor(layer, hits[slot]);
            restored[slot] = Math.min(hits[slot], restorable);
            charges[slot] = tower.chargeFor(layer, restored[slot]);
            left -= hits[slot];
            restorable -= restored[slot];
            lefts[slot] = left;
            paid[occurrence] += pays[slot];
            charged[occurrence] += charges[slot];
        }

        private static int slotOf(int layer, int occurrence) {
            return layer * MOST_OCCURRENCES + occurrence;
        }

        private int netOf(int occurrence) {
            return grounds[occurrence] - quotas[occurrence];
        }

        int ofOccurrence(int occurrence, int what) {
            switch (what) {
                case 0:
                    return grounds[occurrence];
                case 1:
                    return quotas[occurrence];
                case 2:
                    return netOf(occurrence);
                case 3:
                    return paid[occurrence];
                case 4:
                    return charged[occurrence];
                default:
                    return places[occurrence];
            }
        }

        int ofLayer(int layer, int occurrence, int what) {
            int slot = slotOf(layer, occurrence);
            switch (what) {
                case 0:
                    return hits[slot];
                case 1:
                    return pays[slot];
                case 2:
                    return restored[slot];
                case 3:
                    return charges[slot];
                default:
                    return lefts[slot];
            }
        }

        int totalGround() {
            return totalOf(grounds, occurrences);
        }

        int totalQuota() {
            return totalOf(quotas, occurrences);
        }

        int totalPaid() {
            return totalOf(paid, occurrences);
        }

        int totalCharged() {
            return totalOf(charged, occurrences);
        }

        /** What a PART of a LAYER bears is rounded for each OCCURRENCE, not for their sum. */
        int borneBy(int layer, int percent) {
            int borne = 0;
            for (int i = 0; i < occurrences; i++) {
                borne += percent * pays[slotOf(layer, i)] / PERCENT;
            }
            return borne;
        }
    }

    /** PARTS, RETROS and the SPIRAL. */
    private static final class Reinsurers {
        private final int[] parts = new int[MOST_LAYERS * REINSURERS];
        private final int[] takers = new int[REINSURERS];
        private final int[] floors = new int[REINSURERS];
        private final int[] depths = new int[REINSURERS];
        private final int[] borne = new int[REINSURERS];
        private final int[] held = new int[REINSURERS];
        private final int[] next = new int[REINSURERS];

        int placedBeside(int layer, int reinsurer) {
            int placed = 0;
            for (int i = 0; i < REINSURERS; i++) {
                if (i != reinsurer) {
                    placed += parts[partOf(layer, i)];
                }
            }
            return placed;
        }

        int place(int layer, int reinsurer, int percent) {
            parts[partOf(layer, reinsurer)] = percent;
            return PERCENT - placedBeside(layer, NONE);
        }

        private static int partOf(int layer, int reinsurer) {
            return layer * REINSURERS + reinsurer;
        }

        int changeRetro(int reinsurer, int to, int floor, int depth) {
            int before = depths[reinsurer];
            takers[reinsurer] = to;
            floors[reinsurer] = floor;
            depths[reinsurer] = depth;
            return before;
        }

        void bear(Settlement settlement) {
            for (int i = 0; i < REINSURERS; i++) {
                borne[i] = i == 0 ? settlement.totalQuota() : 0;
                for (int layer = 0; layer < settlement.layers; layer++) {
                    borne[i] += settlement.borneBy(layer, parts[partOf(layer, i)]);
                }
            }
        }

        int totalBorne() {
            return totalOf(borne, REINSURERS);
        }

        int spin() {
            System.arraycopy(borne, 0, held, 0, REINSURERS);
            boolean isChanged = true;
            int rounds = 0;
            while (rounds < MOST_ROUNDS && isChanged) {
                isChanged = spinOnce();
                rounds++;
            }
            return rounds;
        }

        private boolean spinOnce() {
            boolean isChanged = false;
            for (int i = 0; i < REINSURERS; i++) {
                next[i] = borne[i] + passedOnTo(i);
                isChanged = isChanged || next[i] != held[i];
            }
            System.arraycopy(next, 0, held, 0, REINSURERS);
            return isChanged;
        }

        private int passedOnTo(int reinsurer) {
            int total = 0;
            for (int i = 0; i < REINSURERS; i++) {
                if (takers[i] == reinsurer) {
                    total += passedOnBy(i);
                }
            }
            return total;
        }

        /** Without a RETRO the DEPTH is 0, so that nothing is passed on. */
        private int passedOnBy(int reinsurer) {
            return Math.min(Math.max(held[reinsurer] - floors[reinsurer], 0), depths[reinsurer]);
        }

        int ofReinsurer(int reinsurer, int what) {
            switch (what) {
                case 0:
                    return borne[reinsurer];
                case 1:
                    return held[reinsurer];
                default:
                    return held[reinsurer] - passedOnBy(reinsurer);
            }
        }
    }

    /** LOSSES of one PERIL by their HOURS: a window that is worth its while begins and ends at such ones. */
    private static final class BestWindows {
        private final int[] hours = new int[MOST_LOSSES];
        private final int[] units = new int[MOST_LOSSES];
        private final int[] most = new int[MOST_LOSSES + 1];
        private int count;

        int countHours() {
            return count;
        }

        void gather(Losses losses, int peril) {
            count = 0;
            for (int i = 0; i < losses.count; i++) {
                if (losses.perils[i] == peril) {
                    gatherOne(losses.hours[i], losses.units[i]);
                }
            }
        }

        private void gatherOne(int hour, int amount) {
            int at = 0;
            while (at < count && hours[at] < hour) {
                at++;
            }
            if (at < count && hours[at] == hour) {
                units[at] += amount;
                return;
            }
            for (int i = count; i > at; i--) {
                hours[i] = hours[i - 1];
                units[i] = units[i - 1];
            }
            hours[at] = hour;
            units[at] = amount;
            count++;
        }

        /** Row i of the table is the most by the first i HOURS alone. */
        int mostByTable(Tower tower, int clause) {
            most[0] = 0;
            for (int last = 0; last < count; last++) {
                int best = most[last];
                int ground = 0;
                for (int first = last; first >= 0 && hours[last] - hours[first] < clause; first--) {
                    ground += units[first];
                    best = Math.max(best, most[first] + tower.freshPayOfAll(ground));
                }
                most[last + 1] = best;
            }
            return most[count];
        }

        int mostByAllWays(Tower tower, int clause) {
            return mostFrom(this, tower, clause, 0);
        }

        /** The first HOUR left is in no window, or in one that ends at any of those left in its clause. */
        private static int mostFrom(BestWindows all, Tower tower, int clause, int first) {
            if (first >= all.count || first >= MOST_HOURS_ANEW) {
                return 0;
            }
            int best = mostFrom(all, tower, clause, first + 1);
            int ground = 0;
            for (int last = first; last < all.count && all.hours[last] - all.hours[first] < clause; last++) {
                ground += all.units[last];
                best = Math.max(best, tower.freshPayOfAll(ground) + mostFrom(all, tower, clause, last + 1));
            }
            return best;
        }
    }

    /** STATIONS and their READINGS. */
    private static final class Stations {
        private final int[] cells = new int[MOST_STATIONS];
        private final int[] failHours = new int[MOST_STATIONS];
        private final int[] readStations = new int[MOST_READINGS];
        private final int[] readHours = new int[MOST_READINGS];
        private final int[] readPerils = new int[MOST_READINGS];
        private final int[] strengths = new int[MOST_READINGS];
        private int count;
        private int readings;

        boolean has(int station) {
            return station >= 0 && station < count;
        }

        boolean isFull() {
            return count >= MOST_STATIONS;
        }

        boolean isFullOfReadings() {
            return readings >= MOST_READINGS;
        }

        int add(int cell) {
            cells[count] = cell;
            failHours[count] = NEVER;
            count++;
            return count - 1;
        }

        int addReading(int station, int hour, int peril, int strength) {
            readStations[readings] = station;
            readHours[readings] = hour;
            readPerils[readings] = peril;
            strengths[readings] = strength;
            readings++;
            return readings;
        }

        boolean hasFailedBy(int station, int hour) {
            return failHours[station] <= hour;
        }

        int failFrom(int station, int hour) {
            failHours[station] = hour;
            int counting = 0;
            for (int i = 0; i < readings; i++) {
                if (isCounting(i, station)) {
                    counting++;
                }
            }
            return counting;
        }

        private boolean isCounting(int reading, int station) {
            return readStations[reading] == station && !hasFailedBy(station, readHours[reading]);
        }

        private boolean isInBox(int station, int box) {
            return (box >> cells[station] & 1) == 1;
        }

        /** The STATION that stands in for those of a BOX, NONE if one of them still works, or there is none. */
        int standInFor(int box, int last) {
            int nearest = NONE;
            int least = FARTHEST + 1;
            for (int i = 0; i < count; i++) {
                if (hasFailedBy(i, last)) {
                    continue;
                }
                if (isInBox(i, box)) {
                    return NONE;
                }
                int distance = distanceTo(box, cells[i]);
                if (distance < least) {
                    least = distance;
                    nearest = i;
                }
            }
            return nearest;
        }

        private static int distanceTo(int box, int cell) {
            int least = FARTHEST;
            for (int i = 0; i <= LAST_CELL; i++) {
                if ((box >> i & 1) == 1) {
                    int rows = Math.abs(i / CELLS_IN_ROW - cell / CELLS_IN_ROW);
                    int columns = Math.abs(i % CELLS_IN_ROW - cell % CELLS_IN_ROW);
                    least = Math.min(least, rows + columns);
                }
            }
            return least;
        }

        int greatestStrength(int peril, int box, int first, int last) {
            int standIn = standInFor(box, last);
            int greatest = 0;
            for (int i = 0; i < count; i++) {
                boolean isOfBond = standIn == NONE ? isInBox(i, box) : i == standIn;
                if (isOfBond) {
                    greatest = Math.max(greatest, strengthAt(i, peril, first, last));
                }
            }
            return greatest;
        }

        private int strengthAt(int station, int peril, int first, int last) {
            int greatest = 0;
            for (int i = 0; i < readings; i++) {
                boolean isInTerm = readHours[i] >= first && readHours[i] <= last;
                if (isInTerm && readPerils[i] == peril && isCounting(i, station)) {
                    greatest = Math.max(greatest, strengths[i]);
                }
            }
            return greatest;
        }
    }

    /** BONDS by their numbers. */
    private static final class Bonds {
        private final int[] principals = new int[MOST_BONDS];
        private final int[] perils = new int[MOST_BONDS];
        private final int[] boxes = new int[MOST_BONDS];
        private final int[] firsts = new int[MOST_BONDS];
        private final int[] lasts = new int[MOST_BONDS];
        private final int[] triggers = new int[MOST_BONDS];
        private final int[] percents = new int[MOST_BONDS];
        private final int[] trustEnds = new int[MOST_BONDS];
        private int count;

        boolean has(int bond) {
            return bond >= 0 && bond < count;
        }

        boolean isFull() {
            return count >= MOST_BONDS;
        }

        int add(int principal, int peril, int box, int first, int last, int trigger, int percent) {
            principals[count] = principal;
            perils[count] = peril;
            boxes[count] = box;
            firsts[count] = first;
            lasts[count] = last;
            triggers[count] = trigger;
            percents[count] = percent;
            trustEnds[count] = last;
            count++;
            return count - 1;
        }

        boolean isExtended(int bond) {
            return trustEnds[bond] > lasts[bond];
        }

        boolean isInTrust(int bond, int hour) {
            return hour <= trustEnds[bond];
        }

        int lengthen(int bond, int hours) {
            trustEnds[bond] = lasts[bond] + hours;
            return trustEnds[bond];
        }

        int principalOf(int bond) {
            return principals[bond];
        }

        int indexOf(int bond, Stations stations) {
            return stations.greatestStrength(perils[bond], boxes[bond], firsts[bond], lasts[bond]);
        }

        int standInOf(int bond, Stations stations) {
            return stations.standInFor(boxes[bond], lasts[bond]);
        }

        int payoutAt(int bond, int index) {
            if (index < triggers[bond]) {
                return 0;
            }
            int payout = percents[bond] * principals[bond] / PERCENT;
            for (int strength = triggers[bond]; strength < index; strength++) {
                payout += (principals[bond] - payout) / 2;
            }
            return payout;
        }

        int totalPayout(Stations stations) {
            int total = 0;
            for (int i = 0; i < count; i++) {
                total += payoutAt(i, indexOf(i, stations));
            }
            return total;
        }
    }

    /** The SCENARIOS of all MODELS. */
    private static final class Models {
        private final int[] weights = new int[MODELS * MOST_SCENARIOS];
        private final int[] units = new int[MODELS * MOST_SCENARIOS];
        private final int[] counts = new int[MODELS];

        boolean isFull(int model) {
            return counts[model] >= MOST_SCENARIOS;
        }

        boolean isEmpty(int model) {
            return counts[model] <= 0;
        }

        int add(int model, int weight, int amount) {
            int slot = slotOf(model, counts[model]);
            weights[slot] = weight;
            units[slot] = amount;
            counts[model]++;
            return counts[model];
        }

        private static int slotOf(int model, int scenario) {
            return model * MOST_SCENARIOS + scenario;
        }

        private int payBy(int model, int scenario, Tower tower, int layer) {
            return tower.freshPay(layer, units[slotOf(model, scenario)]);
        }

        int totalWeight(int model) {
            int total = 0;
            for (int i = 0; i < counts[model]; i++) {
                total += weights[slotOf(model, i)];
            }
            return total;
        }

        long weighedPay(int model, Tower tower, int layer) {
            long total = 0;
            for (int i = 0; i < counts[model]; i++) {
                total += (long) weights[slotOf(model, i)] * payBy(model, i, tower, layer);
            }
            return total;
        }

        private int weightAbove(int model, Tower tower, int layer, int bound) {
            int total = 0;
            for (int i = 0; i < counts[model]; i++) {
                if (payBy(model, i, tower, layer) > bound) {
                    total += weights[slotOf(model, i)];
                }
            }
            return total;
        }

        /**
         * The weight above a bound falls only where the bound is a pay, and below all pays it is all
         * weight, which is above any percent told: so only pays come in.
         */
        int leastBound(int model, Tower tower, int layer, int percent) {
            int most = percent * totalWeight(model);
            int least = MOST_UNITS;
            for (int i = 0; i < counts[model]; i++) {
                int pay = payBy(model, i, tower, layer);
                if (pay < least && PERCENT * weightAbove(model, tower, layer, pay) <= most) {
                    least = pay;
                }
            }
            return least;
        }

        double quotientOf(int model, Tower tower, int layer) {
            int weight = totalWeight(model);
            if (weight < 1) {
                return 0.0;
            }
            return (double) weighedPay(model, tower, layer) / (double) weight;
        }

        int dearestFor(Tower tower, int layer) {
            int dearest = NONE;
            double greatest = -1.0;
            for (int model = 0; model < MODELS; model++) {
                if (isEmpty(model)) {
                    continue;
                }
                double quotient = quotientOf(model, tower, layer);
                if (quotient > greatest) {
                    greatest = quotient;
                    dearest = model;
                }
            }
            return dearest;
        }
    }
}
