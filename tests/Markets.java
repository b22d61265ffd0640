/** Markets that several tests begin with. */
final class Markets {
    static final int MOST_MEASURES = 8;
    static final int MOST_STALLS = 6;

    private static final int[] WEARS = {9, -9, 1, -1, 0, 5};

    private Markets() {
    }

    /** So many measures, each half as long as the one before it, and so many stalls, some days on. */
    static OldMeasures of(int measures, int stalls) {
        OldMeasures x = new OldMeasures();
        for (int added = 1; added < measures; added++) {
            x.addMeasure(added - 1, 1, 2);
        }
        for (int added = 0; added < stalls; added++) {
            x.addStall(WEARS[added]);
        }
        x.passDays(5);
        return x;
    }

    /**
     * As full as can be, behind 6 days. In twelfths of an ell the measures are 12, 108, 6, 3, 24, 12, 1
     * and 9; the drifts are 54, -36, 6, -6, 0 and 0; 18 coins were paid on day 1, 30 on day 5.
     */
    static OldMeasures full() {
        OldMeasures x = new OldMeasures();
        x.addMeasure(0, 9, 1);
        x.addMeasure(0, 1, 2);
        x.addMeasure(2, 1, 2);
        x.addMeasure(1, 2, 9);
        x.addMeasure(0, 3, 3);
        x.addMeasure(3, 1, 3);
        x.addMeasure(6, 9, 1);
        for (int wear : WEARS) {
            x.addStall(wear);
        }
        x.passDays(6);
        return x;
    }

    /** The second of two stalls stands at this drift, -101 to 101, and the tolerance is 100. */
    static OldMeasures withDrift(int drift) {
        OldMeasures x = new OldMeasures();
        x.setTolerance(100);
        x.addStall(0);
        x.addStall(drift < 0 ? -1 : 1);
        for (int day = 0; day < Math.abs(drift); day++) {
            x.passDays(1);
        }
        return x;
    }
}
