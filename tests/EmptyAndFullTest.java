/** Each call in a market as empty as can be, and in one as full as can be, and the last of 512 calls. */
final class EmptyAndFullTest {
    private static final int[] TWELFTHS = {12, 108, 6, 3, 24, 12, 1, 9};

    public static void main(String[] args) {
        emptyCounts();
        emptyMeasures();
        emptyStalls();
        emptyDays();
        fullCounts();
        fullMeasures();
        fullStandard();
        fullLengths();
        fullPieces();
        fullStalls();
        fullForecast();
        fullChanges();
        lastCalls();
        Check.end("EmptyAndFullTest");
    }

    private static void emptyCounts() {
        OldMeasures x = new OldMeasures();
        Check.due("9: empty", x.measures(), 1);
        Check.due("10: empty", x.stalls(), 0);
        Check.due("11: empty", x.days(), 0);
        Check.due("12: empty", x.standard(), 0);
        Check.due("13: empty", x.tolerance(), 10);
        Check.due("14: empty", x.fines(), 0);
    }

    private static void emptyMeasures() {
        OldMeasures x = new OldMeasures();
        Check.due("3: the ell alone", x.setStandard(0), 0);
        Check.due("15: the ell alone", x.baseOf(0), -1);
        Check.due("16: the ell alone", x.stepsToEll(0), 0);
        Check.due("17: the ell alone", x.lengthTop(0), 1);
        Check.due("18: the ell alone", x.lengthBottom(0), 1);
        Check.due("19: the ell alone", x.isLonger(0, 0), false);
        Check.due("20: the ell alone", x.longest(), 0);
        Check.due("21: the ell alone", x.shortest(), 0);
        Check.due("22: the ell alone", x.fewestToMeet(0, 0), 1);
        for (int many : new int[] {1, 2, 199, 200}) {
            Check.due("23: the ell alone, " + many, x.convert(many, 0, 0), many);
            Check.due("24: the ell alone, " + many, x.isExact(many, 0, 0), true);
            Check.due("25: the ell alone, " + many, x.piecesOf(many, 0, 0), many);
            Check.due("26: the ell alone, " + many, x.pieces(many, 0), many);
            Check.due("27: the ell alone, " + many, x.isTold(many, 0), true);
            Check.due("28: the ell alone, " + many, x.bestMeasure(many, 0), 0);
        }
    }

    private static void emptyStalls() {
        OldMeasures x = Markets.of(8, 0);
        Check.due("34: without stalls", x.mostHonest(), -1);
        Check.due("35: without stalls", x.mostGenerous(), -1);
        Check.due("37: without stalls, 1", x.finesIn(1), 0);
        Check.due("37: without stalls, 60", x.finesIn(60), 0);
        Check.due("40: without stalls", x.meanDrift(), 0.0);
        x.addStall(3);
        Check.due("34: the first stall", x.mostHonest(), 0);
        Check.due("35: the first stall", x.mostGenerous(), 0);
        Check.due("40: the first stall", x.meanDrift(), 0.0);
    }

    private static void emptyDays() {
        OldMeasures x = new OldMeasures();
        Check.due("8: without stalls, 1", x.passDays(1), 0);
        Check.due("8: without stalls, 60", x.passDays(60), 0);
        Check.due("11: without stalls", x.days(), 61);
        Check.due("14: without stalls", x.fines(), 0);
    }

    private static void fullCounts() {
        OldMeasures x = Markets.full();
        Check.due("9: full", x.measures(), 8);
        Check.due("10: full", x.stalls(), 6);
        Check.due("11: full", x.days(), 6);
        Check.due("12: full", x.standard(), 0);
        Check.due("13: full", x.tolerance(), 10);
        Check.due("14: full", x.fines(), 48);
    }

    private static void fullMeasures() {
        OldMeasures x = Markets.full();
        int[] bases = {-1, 0, 0, 2, 1, 0, 3, 6};
        int[] steps = {0, 1, 1, 2, 2, 1, 3, 4};
        int[] tops = {1, 9, 1, 1, 2, 1, 1, 3};
        int[] bottoms = {1, 1, 2, 4, 1, 1, 12, 4};
        for (int measure = 0; measure < TWELFTHS.length; measure++) {
            Check.due("15: full, " + measure, x.baseOf(measure), bases[measure]);
            Check.due("16: full, " + measure, x.stepsToEll(measure), steps[measure]);
            Check.due("17: full, " + measure, x.lengthTop(measure), tops[measure]);
            Check.due("18: full, " + measure, x.lengthBottom(measure), bottoms[measure]);
            for (int other = 0; other < TWELFTHS.length; other++) {
                Check.due("19: full, " + measure + " and " + other, x.isLonger(measure, other),
                        TWELFTHS[measure] > TWELFTHS[other]);
            }
        }
        Check.due("20: full", x.longest(), 1);
        Check.due("21: full", x.shortest(), 6);
        Check.due("22: full, 1 of 12 and 9 of 12", x.fewestToMeet(6, 7), 9);
        Check.due("22: full, 9 of 12 and 1 of 12", x.fewestToMeet(7, 6), 1);
        Check.due("22: full, 9 of 12 and 2 ells", x.fewestToMeet(7, 4), 8);
        Check.due("22: full, 2 ells and 9 of 12", x.fewestToMeet(4, 7), 3);
        Check.due("22: full, the last and itself", x.fewestToMeet(7, 7), 1);
        Check.due("22: full, as long as the ell", x.fewestToMeet(5, 0), 1);
    }

    private static void fullStandard() {
        OldMeasures x = Markets.full();
        Check.due("3: full, the last", x.setStandard(7), 0);
        int[] tops = {4, 12, 2, 1, 8, 4, 1, 1};
        int[] bottoms = {3, 1, 3, 3, 3, 3, 9, 1};
        for (int measure = 0; measure < TWELFTHS.length; measure++) {
            Check.due("17: in the last, " + measure, x.lengthTop(measure), tops[measure]);
            Check.due("18: in the last, " + measure, x.lengthBottom(measure), bottoms[measure]);
        }
        // 12 ninths times 1054, and times 1000.
        Check.due("32: in the last", x.getsAt(0, 1, 0), 1405);
        Check.due("33: in the last", x.lossAt(0, 1, 0), -72);
        Check.due("3: full, back to the ell", x.setStandard(0), 7);
    }

    private static void fullLengths() {
        OldMeasures x = Markets.full();
        Check.due("23: 200 of 1 in 6", x.convert(200, 1, 6), 21600);
        Check.due("23: 1 of 6 in 1", x.convert(1, 6, 1), 0);
        Check.due("23: 200 of 6 in 1", x.convert(200, 6, 1), 1);
        Check.due("23: 200 of 7 in 7", x.convert(200, 7, 7), 200);
        Check.due("24: 200 of 6 in 7", x.isExact(200, 6, 7), false);
        Check.due("24: 200 of 7 in 6", x.isExact(200, 7, 6), true);
        Check.due("24: 1 of 7 in ells", x.isExact(1, 7, 0), false);
        Check.due("24: 200 of 7 in ells", x.isExact(200, 7, 0), true);
        Check.due("28: 1 of 7", x.bestMeasure(1, 7), 7);
        Check.due("28: 200 of 7", x.bestMeasure(200, 7), 4);
        Check.due("28: 1 of 6", x.bestMeasure(1, 6), 6);
        Check.due("28: 200 of 6", x.bestMeasure(200, 6), 6);
        Check.due("28: 108 of 6", x.bestMeasure(108, 6), 1);
        Check.due("28: 1 of 5", x.bestMeasure(1, 5), 0);
    }

    private static void fullPieces() {
        tellPieces(200, 7, new long[] {0, 16, 0, 0, 3, 0, 0, 0});
        tellPieces(200, 6, new long[] {1, 1, 1, 0, 3, 0, 2, 0});
        tellPieces(1, 6, new long[] {0, 0, 0, 0, 0, 0, 1, 0});
        tellPieces(1, 7, new long[] {0, 0, 0, 0, 0, 0, 0, 1});
        tellPieces(200, 1, new long[] {0, 200, 0, 0, 0, 0, 0, 0});
        // 23 = 12 + 9 + 2: neither the 5 nor the 2 nor the 3.
        tellPieces(23, 6, new long[] {1, 0, 0, 0, 0, 0, 2, 1});
    }

    private static void tellPieces(int many, int one, long[] due) {
        OldMeasures x = Markets.full();
        String of = many + " of " + one;
        long sum = 0;
        for (int other = 0; other < due.length; other++) {
            Check.due("25: full, " + of + " in " + other, x.piecesOf(many, one, other), due[other]);
            sum += due[other];
        }
        Check.due("26: full, " + of, x.pieces(many, one), sum);
        Check.due("27: full, " + of, x.isTold(many, one), true);
    }

    private static void fullStalls() {
        OldMeasures x = Markets.full();
        int[] drifts = {54, -36, 6, -6, 0, 0};
        int[] wears = {9, -9, 1, -1, 0, 5};
        for (int stall = 0; stall < drifts.length; stall++) {
            Check.due("29: full, " + stall, x.driftOf(stall), drifts[stall]);
            Check.due("30: full, " + stall, x.wearOf(stall), wears[stall]);
            Check.due("31: full, " + stall, x.isHonest(stall), stall > 1);
            Check.due("32: full, 200 of 1 at " + stall, x.getsAt(stall, 200, 1), 1800 * (1000 + drifts[stall]));
            Check.due("33: full, 200 of 1 at " + stall, x.lossAt(stall, 200, 1), -1800 * drifts[stall]);
        }
        Check.due("32: full, 3/4 at 54", x.getsAt(0, 1, 7), 790);
        Check.due("33: full, 3/4 at 54", x.lossAt(0, 1, 7), -40);
        Check.due("32: full, a twelfth at -6", x.getsAt(3, 1, 6), 82);
        Check.due("33: full, a twelfth at -6", x.lossAt(3, 1, 6), 1);
        Check.due("34: full", x.mostHonest(), 4);
        Check.due("35: full", x.mostGenerous(), 0);
        Check.due("40: full", x.meanDrift(), 3.0);
    }

    private static void fullForecast() {
        OldMeasures x = Markets.full();
        int[] untilFined = {1, 2, 9, 10, -1, 6};
        int[] bestDays = {0, 2, 8, 10, 0, 5};
        int[] tomorrow = {0, -45, 7, -7, 0, 5};
        for (int stall = 0; stall < untilFined.length; stall++) {
            Check.due("36: full, behind 1, " + stall, x.driftIn(stall, 1), tomorrow[stall]);
            Check.due("38: full, " + stall, x.daysUntilFined(stall), untilFined[stall]);
            Check.due("39: full, " + stall, x.bestDayAt(stall), bestDays[stall]);
        }
        Check.due("36: full, behind 60, fined behind 55", x.driftIn(0, 60), 45);
        Check.due("36: full, behind 60, fined then", x.driftIn(5, 60), 0);
        Check.due("37: full, 1", x.finesIn(1), 63);
        Check.due("37: full, 6", x.finesIn(6), 147);
        // By stall: 63 and 9 * 54; 10 * 54; 15 and 4 * 12; 16 and 4 * 12; 0; 10 * 30.
        Check.due("37: full, 60", x.finesIn(60), 1516);
        Check.due("8: full, 60", x.passDays(60), 1516);
        Check.due("14: full, behind 66 days", x.fines(), 1564);
    }

    private static void fullChanges() {
        OldMeasures x = Markets.full();
        Check.full("2: full", x, () -> x.addMeasure(0, 1, 1));
        Check.full("4: full", x, () -> x.addStall(0));
        Check.due("5: full, the last", x.setWear(5, -9), 5);
        Check.due("30: full, the last", x.wearOf(5), -9);
        Check.due("6: full, the first", x.seal(0), 54);
        Check.due("6: full, the last", x.seal(5), 0);
        Check.due("7: full", x.setTolerance(0), 10);
    }

    /** 512 calls behind the constructor. */
    private static void lastCalls() {
        OldMeasures x = new OldMeasures();
        x.addStall(9);
        x.setTolerance(0);
        for (int call = 0; call < 508; call++) {
            Check.due("8: 60 days, each with a fine", x.passDays(60), 540);
        }
        Check.due("11: the call 511", x.days(), 30480);
        Check.due("14: the call 512", x.fines(), 274320);
    }
}
