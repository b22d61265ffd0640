import java.math.BigInteger;

/** A second market, told straight from the document in big fractions, to compare answers with. */
final class Model {
    final int[] base = new int[8];
    final int[] many = new int[8];
    final int[] parts = new int[8];
    int measures = 1;
    int standard = 0;
    int[] wear = new int[0];
    int[] drift = new int[0];
    int tolerance = 10;
    int day = 0;
    int fines = 0;

    /** In ells, as a top and a bottom. */
    BigInteger[] inElls(int measure) {
        BigInteger top = BigInteger.ONE;
        BigInteger bottom = BigInteger.ONE;
        for (int at = measure; at != 0; at = base[at]) {
            top = top.multiply(BigInteger.valueOf(many[at]));
            bottom = bottom.multiply(BigInteger.valueOf(parts[at]));
        }
        return reduced(top, bottom);
    }

    static BigInteger[] reduced(BigInteger top, BigInteger bottom) {
        BigInteger divisor = top.gcd(bottom);
        if (divisor.signum() == 0) {
            divisor = BigInteger.ONE;
        }
        return new BigInteger[] {top.divide(divisor), bottom.divide(divisor)};
    }

    static BigInteger[] quotient(BigInteger[] a, BigInteger[] b) {
        return reduced(a[0].multiply(b[1]), a[1].multiply(b[0]));
    }

    static BigInteger[] times(BigInteger[] a, long factor) {
        return reduced(a[0].multiply(BigInteger.valueOf(factor)), a[1]);
    }

    static BigInteger[] minus(BigInteger[] a, BigInteger[] b) {
        return reduced(a[0].multiply(b[1]).subtract(b[0].multiply(a[1])), a[1].multiply(b[1]));
    }

    static int compare(BigInteger[] a, BigInteger[] b) {
        return a[0].multiply(b[1]).compareTo(b[0].multiply(a[1]));
    }

    static long whole(BigInteger[] a) {
        return a[0].divide(a[1]).longValueExact();
    }

    static boolean isWhole(BigInteger[] a) {
        return a[1].equals(BigInteger.ONE);
    }

    BigInteger[] length(int measure) {
        return quotient(inElls(measure), inElls(standard));
    }

    int longest() {
        int found = 0;
        for (int measure = 1; measure < measures; measure++) {
            if (compare(inElls(measure), inElls(found)) > 0) {
                found = measure;
            }
        }
        return found;
    }

    int shortest() {
        int found = 0;
        for (int measure = 1; measure < measures; measure++) {
            if (compare(inElls(measure), inElls(found)) < 0) {
                found = measure;
            }
        }
        return found;
    }

    long fewestToMeet(int one, int other) {
        BigInteger[] inOther = quotient(inElls(one), inElls(other));
        return inOther[1].longValueExact();
    }

    BigInteger[] inOther(int howMany, int one, int other) {
        return quotient(times(inElls(one), howMany), inElls(other));
    }

    /** The pieces of each measure, and at the end 1 if nothing is left. */
    long[] told(int howMany, int one) {
        long[] taken = new long[9];
        boolean[] used = new boolean[8];
        BigInteger[] left = times(inElls(one), howMany);
        for (int turn = 0; turn < measures; turn++) {
            int next = -1;
            for (int measure = 0; measure < measures; measure++) {
                if (!used[measure] && (next < 0 || compare(inElls(measure), inElls(next)) > 0)) {
                    next = measure;
                }
            }
            used[next] = true;
            taken[next] = whole(quotient(left, inElls(next)));
            left = minus(left, times(inElls(next), taken[next]));
        }
        taken[8] = left[0].signum() == 0 ? 1 : 0;
        return taken;
    }

    long pieces(int howMany, int one) {
        long sum = 0;
        long[] taken = told(howMany, one);
        for (int measure = 0; measure < 8; measure++) {
            sum += taken[measure];
        }
        return sum;
    }

    int bestMeasure(int howMany, int one) {
        int found = -1;
        for (int measure = 0; measure < measures; measure++) {
            if (isWhole(inOther(howMany, one, measure))
                    && (found < 0 || compare(inElls(measure), inElls(found)) > 0)) {
                found = measure;
            }
        }
        return found;
    }

    boolean isHonest(int stall) {
        return drift[stall] >= -tolerance && drift[stall] <= tolerance;
    }

    long gives(int thousandths, int howMany, int measure) {
        return whole(times(times(length(measure), howMany), thousandths));
    }

    Model copy() {
        Model copy = new Model();
        copy.wear = wear.clone();
        copy.drift = drift.clone();
        copy.tolerance = tolerance;
        copy.day = day;
        return copy;
    }

    /** The stall that pays and its coins; the stall is -1 if none pays. */
    int[] passDay() {
        for (int stall = 0; stall < drift.length; stall++) {
            drift[stall] += wear[stall];
            if (drift[stall] > 300) {
                drift[stall] = 300;
            }
            if (drift[stall] < -300) {
                drift[stall] = -300;
            }
        }
        int[] paid = {-1, 0};
        if (drift.length > 0 && !isHonest(day % drift.length)) {
            int stall = day % drift.length;
            paid[0] = stall;
            paid[1] = drift[stall] < 0 ? -drift[stall] : drift[stall];
            drift[stall] = 0;
        }
        day++;
        fines += paid[1];
        return paid;
    }

    int finesIn(int days) {
        Model copy = copy();
        for (int passed = 0; passed < days; passed++) {
            copy.passDay();
        }
        return copy.fines;
    }

    int driftIn(int stall, int days) {
        Model copy = copy();
        for (int passed = 0; passed < days; passed++) {
            copy.passDay();
        }
        return copy.drift[stall];
    }

    int daysUntilFined(int stall) {
        Model copy = copy();
        for (int behind = 1; behind <= 60; behind++) {
            if (copy.passDay()[0] == stall) {
                return behind;
            }
        }
        return -1;
    }

    int bestDayAt(int stall) {
        int best = 0;
        for (int behind = 1; behind <= 30; behind++) {
            int before = best == 0 ? drift[stall] : driftIn(stall, best);
            if (driftIn(stall, behind) > before) {
                best = behind;
            }
        }
        return best;
    }

    int mostHonest() {
        int found = -1;
        for (int stall = drift.length - 1; stall >= 0; stall--) {
            if (found < 0 || drift[stall] * drift[stall] <= drift[found] * drift[found]) {
                found = stall;
            }
        }
        return found;
    }

    int mostGenerous() {
        int found = -1;
        for (int stall = drift.length - 1; stall >= 0; stall--) {
            if (found < 0 || drift[stall] >= drift[found]) {
                found = stall;
            }
        }
        return found;
    }

    double meanDrift() {
        double sum = 0;
        for (int one : drift) {
            sum += one;
        }
        return drift.length == 0 ? 0 : sum / drift.length;
    }

    long digest() {
        long[] heads = {measures, drift.length, day, standard, tolerance, fines, longest(), shortest(),
            mostHonest(), mostGenerous()};
        long d = mixed(2069, heads);
        for (int measure = 0; measure < measures; measure++) {
            long[] of = {measure == 0 ? -1 : base[measure], length(measure)[0].longValueExact(),
                length(measure)[1].longValueExact(), pieces(7, measure), told(7, measure)[8],
                bestMeasure(7, measure)};
            d = mixed(d, of);
        }
        for (int stall = 0; stall < drift.length; stall++) {
            long[] of = {drift[stall], wear[stall], isHonest(stall) ? 1 : 0,
                gives(1000 + drift[stall], 5, standard), daysUntilFined(stall), bestDayAt(stall)};
            d = mixed(d, of);
        }
        return d;
    }

    private static long mixed(long before, long[] numbers) {
        long d = before;
        for (long number : numbers) {
            d = d * 31 + number;
        }
        return d;
    }
}
