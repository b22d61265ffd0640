/** The measures of an old market. */
public final class OldMeasures {
    private static final int NONE = -1;
    private static final int ELL = 0;
    private static final int MOST_MEASURES = 8;
    private static final int MOST_PARTS = 9;
    private static final int MOST_MANY = 200;
    private static final int THOUSANDTHS = 1000;
    private static final int MOST_STALLS = 6;
    private static final int MOST_WEAR = 9;
    private static final int MOST_DRIFT = 300;
    private static final int FIRST_TOLERANCE = 10;
    private static final int MOST_TOLERANCE = 100;
    private static final int MOST_DAYS = 60;
    private static final int LAST_BUYING_DAY = 30;
    private static final int DIGEST_START = 2069;
    private static final int DIGEST_FACTOR = 31;
    private static final int DIGEST_MANY = 7;
    private static final int DIGEST_MANY_AT_STALL = 5;

    // Euclid needs at most 34 steps for lengths up to 9 to the 7th.
    private static final int MOST_DIVISIONS = 100;

    private final int[] bases;
    private final int[] steps;

    // All lengths are whole numbers of one small unit, so that no fraction is ever cut. Each new
    // measure makes the unit finer by its parts; with 7 told measures at most, no length is above
    // 9 to the 7th, and even 200 of it times 1300 is far inside a long.
    private final long[] lengths;

    // The order in which a length is told in pieces. A finer unit leaves it as it is.
    private final int[] longestFirst;

    private final Stalls stalls;

    // What would be is tried out on this copy, made once, so that asking changes nothing.
    private final Stalls trial;

    private int measureCount;
    private int standard;
    private int fines;

    public OldMeasures() {
        bases = new int[MOST_MEASURES];
        steps = new int[MOST_MEASURES];
        lengths = new long[MOST_MEASURES];
        longestFirst = new int[MOST_MEASURES];
        stalls = new Stalls();
        trial = new Stalls();
        bases[ELL] = NONE;
        lengths[ELL] = 1;
        measureCount = 1;
        standard = ELL;
    }

    // ---- the market

    public int addMeasure(int base, int many, int parts)
            throws IndexOutOfBoundsException, IllegalArgumentException, IllegalStateException {
        needMeasure(base);
        if (isOutside(many, 1, MOST_PARTS) || isOutside(parts, 1, MOST_PARTS)) {
            throw new IllegalArgumentException("many and parts are 1 to 9");
        }
        if (measureCount >= MOST_MEASURES) {
            throw new IllegalStateException("there are 8 measures");
        }
        int added = measureCount;
        long length = lengths[base] * many;
        refineUnit(parts);
        bases[added] = base;
        steps[added] = steps[base] + 1;
        lengths[added] = length;
        measureCount = added + 1;
        rankLast();
        return added;
    }

    public int setStandard(int measure) throws IndexOutOfBoundsException {
        needMeasure(measure);
        int before = standard;
        standard = measure;
        return before;
    }

    public int addStall(int wear) throws IllegalArgumentException, IllegalStateException {
        needWear(wear);
        if (stalls.count >= MOST_STALLS) {
            throw new IllegalStateException("there are 6 stalls");
        }
        int added = stalls.count;
        stalls.wears[added] = wear;
        stalls.drifts[added] = 0;
        stalls.count = added + 1;
        return added;
    }

    public int setWear(int stall, int wear) throws IndexOutOfBoundsException, IllegalArgumentException {
        needStall(stall);
        needWear(wear);
        int before = stalls.wears[stall];
        stalls.wears[stall] = wear;
        return before;
    }

    public int seal(int stall) throws IndexOutOfBoundsException {
        needStall(stall);
        int before = stalls.drifts[stall];
        stalls.drifts[stall] = 0;
        return before;
    }

    public int setTolerance(int tolerance) throws IllegalArgumentException {
        if (isOutside(tolerance, 0, MOST_TOLERANCE)) {
            throw new IllegalArgumentException("a tolerance is 0 to 100");
        }
        int before = stalls.tolerance;
        stalls.tolerance = tolerance;
        return before;
    }

    public int passDays(int days) throws IllegalArgumentException {
        needDays(days);
        int paid = stalls.coinsPaidIn(days);
        fines += paid;
        return paid;
    }

    // ---- what there is

    public int measures() {
        return measureCount;
    }

    public int stalls() {
        return stalls.count;
    }

    public int days() {
        return stalls.day;
    }

    public int standard() {
        return standard;
    }

    public int tolerance() {
        return stalls.tolerance;
    }

    public int fines() {
        return fines;
    }

    // ---- measures

    public int baseOf(int measure) throws IndexOutOfBoundsException {
        needMeasure(measure);
        return bases[measure];
    }

    public int stepsToEll(int measure) throws IndexOutOfBoundsException {
        needMeasure(measure);
        return steps[measure];
    }

    public long lengthTop(int measure) throws IndexOutOfBoundsException {
        needMeasure(measure);
        return withoutCommonDivisor(lengths[measure], lengths[standard]);
    }

    public long lengthBottom(int measure) throws IndexOutOfBoundsException {
        needMeasure(measure);
        return withoutCommonDivisor(lengths[standard], lengths[measure]);
    }

    public boolean isLonger(int one, int other) throws IndexOutOfBoundsException {
        needMeasure(one);
        needMeasure(other);
        return lengths[one] > lengths[other];
    }

    public int longest() {
        return longestFirst[0];
    }

    public int shortest() {
        int found = ELL;
        for (int measure = 1; measure < measureCount; measure++) {
            if (lengths[measure] < lengths[found]) {
                found = measure;
            }
        }
        return found;
    }

    public long fewestToMeet(int one, int other) throws IndexOutOfBoundsException {
        needMeasure(one);
        needMeasure(other);
        return withoutCommonDivisor(lengths[other], lengths[one]);
    }

    // ---- lengths

    public long convert(int many, int one, int other)
            throws IndexOutOfBoundsException, IllegalArgumentException {
        needMeasure(one);
        needMeasure(other);
        needMany(many);
        return timesIn(lengths[one] * many, lengths[other]);
    }

    public boolean isExact(int many, int one, int other)
            throws IndexOutOfBoundsException, IllegalArgumentException {
        needMeasure(one);
        needMeasure(other);
        needMany(many);
        return leftOf(lengths[one] * many, lengths[other]) == 0;
    }

    public long piecesOf(int many, int one, int other)
            throws IndexOutOfBoundsException, IllegalArgumentException {
        needMeasure(one);
        needMeasure(other);
        needMany(many);
        long left = lengths[one] * many;
        for (int rank = 0; rank < measureCount && longestFirst[rank] != other; rank++) {
            left = leftOf(left, lengthAt(rank));
        }
        return timesIn(left, lengths[other]);
    }

    public long pieces(int many, int measure) throws IndexOutOfBoundsException, IllegalArgumentException {
        needMeasure(measure);
        needMany(many);
        long left = lengths[measure] * many;
        long taken = 0;
        for (int rank = 0; rank < measureCount; rank++) {
            taken += timesIn(left, lengthAt(rank));
            left = leftOf(left, lengthAt(rank));
        }
        return taken;
    }

    public boolean isTold(int many, int measure) throws IndexOutOfBoundsException, IllegalArgumentException {
        needMeasure(measure);
        needMany(many);
        long left = lengths[measure] * many;
        for (int rank = 0; rank < measureCount; rank++) {
            left = leftOf(left, lengthAt(rank));
        }
        return left == 0;
    }

    public int bestMeasure(int many, int measure) throws IndexOutOfBoundsException, IllegalArgumentException {
        needMeasure(measure);
        needMany(many);
        long length = lengths[measure] * many;
        for (int rank = 0; rank < measureCount; rank++) {
            if (leftOf(length, lengthAt(rank)) == 0) {
                return longestFirst[rank];
            }
        }
        return measure;
    }

    // ---- stalls

    public int driftOf(int stall) throws IndexOutOfBoundsException {
        needStall(stall);
        return stalls.drifts[stall];
    }

    public int wearOf(int stall) throws IndexOutOfBoundsException {
        needStall(stall);
        return stalls.wears[stall];
    }

    public boolean isHonest(int stall) throws IndexOutOfBoundsException {
        needStall(stall);
        return stalls.isTolerated(stalls.drifts[stall]);
    }

    public long getsAt(int stall, int many, int measure)
            throws IndexOutOfBoundsException, IllegalArgumentException {
        needStall(stall);
        needMeasure(measure);
        needMany(many);
        return givenWith(stalls.drifts[stall], many, measure);
    }

    public long lossAt(int stall, int many, int measure)
            throws IndexOutOfBoundsException, IllegalArgumentException {
        needStall(stall);
        needMeasure(measure);
        needMany(many);
        return givenWith(0, many, measure) - givenWith(stalls.drifts[stall], many, measure);
    }

    public int mostHonest() {
        int found = NONE;
        int nearest = MOST_DRIFT + 1;
        for (int stall = 0; stall < stalls.count; stall++) {
            int away = Math.abs(stalls.drifts[stall]);
            if (away < nearest) {
                nearest = away;
                found = stall;
            }
        }
        return found;
    }

    public int mostGenerous() {
        int found = NONE;
        int greatest = -MOST_DRIFT - 1;
        for (int stall = 0; stall < stalls.count; stall++) {
            if (stalls.drifts[stall] > greatest) {
                greatest = stalls.drifts[stall];
                found = stall;
            }
        }
        return found;
    }

    // ---- what would be

    public int driftIn(int stall, int days) throws IndexOutOfBoundsException, IllegalArgumentException {
        needStall(stall);
        needDays(days);
        trial.become(stalls);
        trial.coinsPaidIn(days);
        return trial.drifts[stall];
    }

    public int finesIn(int days) throws IllegalArgumentException {
        needDays(days);
        trial.become(stalls);
        return trial.coinsPaidIn(days);
    }

    public int daysUntilFined(int stall) throws IndexOutOfBoundsException {
        needStall(stall);
        trial.become(stalls);
        for (int day = 1; day <= MOST_DAYS; day++) {
            boolean isVisited = trial.visited() == stall;
            int paid = trial.coinsPaidNextDay();
            if (isVisited && paid > 0) {
                return day;
            }
        }
        return NONE;
    }

    public int bestDayAt(int stall) throws IndexOutOfBoundsException {
        needStall(stall);
        trial.become(stalls);
        int best = 0;
        int greatest = trial.drifts[stall];
        for (int day = 1; day <= LAST_BUYING_DAY; day++) {
            trial.coinsPaidNextDay();
            if (trial.drifts[stall] > greatest) {
                greatest = trial.drifts[stall];
                best = day;
            }
        }
        return best;
    }

    public double meanDrift() {
        if (stalls.count < 1) {
            return 0;
        }
        int sum = 0;
        for (int stall = 0; stall < stalls.count; stall++) {
            sum += stalls.drifts[stall];
        }
        return (double) sum / stalls.count;
    }

    public long digest() {
        long d = DIGEST_START;
        d = mixed(d, measures());
        d = mixed(d, stalls());
        d = mixed(d, days());
        d = mixed(d, standard());
        d = mixed(d, tolerance());
        d = mixed(d, fines());
        d = mixed(d, longest());
        d = mixed(d, shortest());
        d = mixed(d, mostHonest());
        d = mixed(d, mostGenerous());
        for (int measure = 0; measure < measureCount; measure++) {
            d = mixedMeasure(d, measure);
        }
        for (int stall = 0; stall < stalls.count; stall++) {
            d = mixedStall(d, stall);
        }
        return d;
    }

    private long mixedMeasure(long before, int measure) {
        long d = before;
        d = mixed(d, baseOf(measure));
        d = mixed(d, lengthTop(measure));
        d = mixed(d, lengthBottom(measure));
        d = mixed(d, pieces(DIGEST_MANY, measure));
        d = mixed(d, isTold(DIGEST_MANY, measure) ? 1 : 0);
        return mixed(d, bestMeasure(DIGEST_MANY, measure));
    }

    private long mixedStall(long before, int stall) {
        long d = before;
        d = mixed(d, driftOf(stall));
        d = mixed(d, wearOf(stall));
        d = mixed(d, isHonest(stall) ? 1 : 0);
        d = mixed(d, getsAt(stall, DIGEST_MANY_AT_STALL, standard));
        d = mixed(d, daysUntilFined(stall));
        return mixed(d, bestDayAt(stall));
    }

    private static long mixed(long d, long x) {
        return d * DIGEST_FACTOR + x;
    }

    private void needMeasure(int measure) throws IndexOutOfBoundsException {
        if (isOutside(measure, 0, measureCount - 1)) {
            throw new IndexOutOfBoundsException("there is no such measure");
        }
    }

    private void needStall(int stall) throws IndexOutOfBoundsException {
        if (isOutside(stall, 0, stalls.count - 1)) {
            throw new IndexOutOfBoundsException("there is no such stall");
        }
    }

    private static void needWear(int wear) throws IllegalArgumentException {
        if (isOutside(wear, -MOST_WEAR, MOST_WEAR)) {
            throw new IllegalArgumentException("a wear is -9 to 9");
        }
    }

    private static void needDays(int days) throws IllegalArgumentException {
        if (isOutside(days, 1, MOST_DAYS)) {
            throw new IllegalArgumentException("days are 1 to 60");
        }
    }

    private static void needMany(int many) throws IllegalArgumentException {
        if (isOutside(many, 1, MOST_MANY)) {
            throw new IllegalArgumentException("many is 1 to 200");
        }
    }

    private static boolean isOutside(int number, int least, int most) {
        return number < least || number > most;
    }

    private void refineUnit(int parts) {
        for (int measure = 0; measure < measureCount; measure++) {
            lengths[measure] *= parts;
        }
    }

    // The newest measure has the greatest number, so it goes behind those that are as long.
    private void rankLast() {
        int added = measureCount - 1;
        int rank = added;
        while (rank > 0 && lengthAt(rank - 1) < lengths[added]) {
            longestFirst[rank] = longestFirst[rank - 1];
            rank--;
        }
        longestFirst[rank] = added;
    }

    private long lengthAt(int rank) {
        return lengths[longestFirst[rank]];
    }

    private long givenWith(int drift, int many, int measure) {
        return timesIn(lengths[measure] * many * (THOUSANDTHS + drift), lengths[standard]);
    }

    // No length is less than 1; the divisor is looked at all the same before it divides.
    private static long timesIn(long length, long piece) {
        return piece < 1 ? 0 : length / piece;
    }

    private static long leftOf(long length, long piece) {
        return piece < 1 ? length : length % piece;
    }

    private static long withoutCommonDivisor(long number, long other) {
        return timesIn(number, greatestCommonDivisor(number, other));
    }

    private static long greatestCommonDivisor(long one, long other) {
        long divisor = one;
        long rest = other;
        for (int division = 0; division < MOST_DIVISIONS && rest > 0; division++) {
            long next = divisor % rest;
            divisor = rest;
            rest = next;
        }
        return divisor;
    }

    private static final class Stalls {
        private final int[] wears;
        private final int[] drifts;
        private int count;
        private int tolerance;
        private int day;

        private Stalls() {
            wears = new int[MOST_STALLS];
            drifts = new int[MOST_STALLS];
            tolerance = FIRST_TOLERANCE;
        }

        private void become(Stalls other) {
            for (int stall = 0; stall < MOST_STALLS; stall++) {
                wears[stall] = other.wears[stall];
                drifts[stall] = other.drifts[stall];
            }
            count = other.count;
            tolerance = other.tolerance;
            day = other.day;
        }

        private int coinsPaidIn(int days) {
            int paid = 0;
            for (int passed = 0; passed < days; passed++) {
                paid += coinsPaidNextDay();
            }
            return paid;
        }

        private int coinsPaidNextDay() {
            for (int stall = 0; stall < count; stall++) {
                drifts[stall] = held(drifts[stall] + wears[stall]);
            }
            int paid = finedAt(visited());
            day++;
            return paid;
        }

        private int visited() {
            return count < 1 ? NONE : Math.floorMod(day, count);
        }

        private int finedAt(int stall) {
            if (stall < 0 || stall >= count || isTolerated(drifts[stall])) {
                return 0;
            }
            int paid = Math.abs(drifts[stall]);
            drifts[stall] = 0;
            return paid;
        }

        private boolean isTolerated(int drift) {
            return Math.abs(drift) <= tolerance;
        }

        private static int held(int drift) {
            return Math.max(-MOST_DRIFT, Math.min(MOST_DRIFT, drift));
        }
    }
}
