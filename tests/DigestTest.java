import java.math.BigInteger;

/** Promise 41: the digest, number by number, as it wraps around as a 64-bit integer. */
final class DigestTest {
    private static final BigInteger FACTOR = BigInteger.valueOf(31);

    public static void main(String[] args) {
        ofANewMarket();
        ofAFullMarket();
        ofAMarketWithoutStalls();
        ofABusyMarket();
        ofADishonestStall();
        Check.end("DigestTest");
    }

    private static void ofANewMarket() {
        OldMeasures x = new OldMeasures();
        long[] told = {1, 0, 0, 0, 10, 0, 0, 0, -1, -1, -1, 1, 1, 7, 1, 0};
        Check.due("41: a new one", x.digest(), wrapped(told));
        Check.due("41: asked again", x.digest(), wrapped(told));
    }

    private static void ofAFullMarket() {
        long[] told = {
            8, 6, 6, 0, 10, 48, 1, 6, 4, 0,
            -1, 1, 1, 4, 1, 0,
            0, 9, 1, 7, 1, 1,
            0, 1, 2, 3, 1, 2,
            2, 1, 4, 2, 1, 3,
            1, 2, 1, 4, 1, 4,
            0, 1, 1, 4, 1, 0,
            3, 1, 12, 2, 1, 6,
            6, 3, 4, 4, 1, 7,
            54, 9, 0, 5270, 1, 0,
            -36, -9, 0, 4820, 2, 2,
            6, 1, 1, 5030, 9, 8,
            -6, -1, 1, 4970, 10, 10,
            0, 0, 1, 5000, -1, 0,
            0, 5, 1, 5000, 6, 5,
        };
        Check.due("41: a full one", Markets.full().digest(), wrapped(told));
    }

    /** In thirds the measures are 3 and 2: 7 ells are 21, 7 of 2 are 14, of which 2 are left. */
    private static void ofAMarketWithoutStalls() {
        OldMeasures x = new OldMeasures();
        x.addMeasure(0, 2, 3);
        x.setStandard(1);
        x.setTolerance(100);
        x.passDays(60);
        long[] told = {
            2, 0, 60, 1, 100, 0, 0, 1, -1, -1,
            -1, 3, 2, 7, 1, 0,
            0, 1, 1, 5, 1, 1,
        };
        Check.due("41: without stalls", x.digest(), wrapped(told));
    }

    private static void ofABusyMarket() {
        OldMeasures x = new OldMeasures();
        x.addMeasure(0, 2, 3);
        x.addMeasure(1, 5, 2);
        x.setStandard(1);
        x.addStall(7);
        x.addStall(-3);
        x.setTolerance(5);
        x.passDays(3);
        // Days 0 to 2: 7 pays; -6 pays; 14 pays: the drifts are 0 and -3.
        // Lengths in sixths of an ell: 6, 4, 10. 7 ells are 42: 4 of 10, 2 left; 28: 2 of 10, 1 of 6,
        // 2 left; 70: 7 of 10. Of 42, 28 and 70 the best are the ell, the 1, the 2.
        // Days from 3: the second is visited at -6, so behind 1; the first at 14, so behind 2.
        long[] told = {
            3, 2, 3, 1, 5, 27, 2, 1, 0, 0,
            -1, 3, 2, 4, 0, 0,
            0, 1, 1, 3, 0, 1,
            1, 5, 2, 7, 1, 2,
            0, 7, 1, 5000, 2, 1,
            -3, -3, 1, 4985, 1, 1,
        };
        Check.due("41: a busy one", x.digest(), wrapped(told));
    }

    private static void ofADishonestStall() {
        OldMeasures x = new OldMeasures();
        x.setTolerance(5);
        x.addStall(0);
        x.addStall(6);
        x.passDays(1);
        // The second stands at 6; it pays 12 on day 1, and is at 6 again behind it at most.
        long[] told = {
            1, 2, 1, 0, 5, 0, 0, 0, 0, 1,
            -1, 1, 1, 7, 1, 0,
            0, 0, 1, 5000, -1, 0,
            6, 6, 0, 5030, 1, 0,
        };
        Check.due("41: one that is not honest", x.digest(), wrapped(told));
    }

    /** The last 64 bits of the whole sum, which is beyond them. */
    private static long wrapped(long[] told) {
        BigInteger d = BigInteger.valueOf(2069);
        for (long number : told) {
            d = d.multiply(FACTOR).add(BigInteger.valueOf(number));
        }
        Check.due("41: the sum is beyond 64 bits", d.bitLength() > 64, true);
        return d.longValue();
    }
}
