/** Promises 15 to 22: measures. */
final class MeasuresTest {
    /** Ell 1, 1: 3/4, 2: 3/2 of 1 = 9/8, 3: 6/8 = 3/4, 4: 1/9 of 2 = 1/8. */
    private static OldMeasures market() {
        OldMeasures x = new OldMeasures();
        x.addMeasure(0, 3, 4);
        x.addMeasure(1, 3, 2);
        x.addMeasure(0, 6, 8);
        x.addMeasure(2, 1, 9);
        return x;
    }

    public static void main(String[] args) {
        bases();
        lengths();
        longestLengths();
        isLonger();
        extremes();
        fewestToMeet();
        changesNothing();
        Check.end("MeasuresTest");
    }

    private static void bases() {
        OldMeasures x = market();
        int[] bases = {-1, 0, 1, 0, 2};
        int[] steps = {0, 1, 2, 1, 3};
        for (int measure = 0; measure < 5; measure++) {
            Check.due("15: baseOf(" + measure + ")", x.baseOf(measure), bases[measure]);
            Check.due("16: stepsToEll(" + measure + ")", x.stepsToEll(measure), steps[measure]);
        }
        x.setStandard(4);
        Check.due("15: the standard does not count", x.baseOf(4), 2);
        Check.due("16: the standard does not count", x.stepsToEll(4), 3);
        Check.due("16: of the ell", x.stepsToEll(0), 0);
        OldMeasures chain = new OldMeasures();
        for (int added = 1; added < 8; added++) {
            chain.addMeasure(added - 1, 1, 2);
        }
        Check.due("15: the last of a chain", chain.baseOf(7), 6);
        Check.due("16: the last of a chain", chain.stepsToEll(7), 7);
    }

    private static void lengths() {
        OldMeasures x = market();
        int[][] inElls = {{1, 1}, {3, 4}, {9, 8}, {3, 4}, {1, 8}};
        int[][] inTheSecond = {{8, 9}, {2, 3}, {1, 1}, {2, 3}, {1, 9}};
        for (int measure = 0; measure < 5; measure++) {
            Check.due("17: lengthTop(" + measure + ")", x.lengthTop(measure), inElls[measure][0]);
            Check.due("18: lengthBottom(" + measure + ")", x.lengthBottom(measure), inElls[measure][1]);
        }
        x.setStandard(2);
        for (int measure = 0; measure < 5; measure++) {
            Check.due("17: top in 2 of " + measure, x.lengthTop(measure), inTheSecond[measure][0]);
            Check.due("18: bottom in 2 of " + measure, x.lengthBottom(measure), inTheSecond[measure][1]);
        }
    }

    private static void longestLengths() {
        OldMeasures long9 = chainOf(9, 1);
        Check.due("17: 9 to the 7th", long9.lengthTop(7), 4782969);
        Check.due("18: 9 to the 7th", long9.lengthBottom(7), 1);
        long9.setStandard(7);
        Check.due("17: the ell in it", long9.lengthTop(0), 1);
        Check.due("18: the ell in it", long9.lengthBottom(0), 4782969);
        OldMeasures short9 = chainOf(1, 9);
        Check.due("17: a 9 to the 7th part", short9.lengthTop(7), 1);
        Check.due("18: a 9 to the 7th part", short9.lengthBottom(7), 4782969);
        OldMeasures mixed = chainOf(8, 9);
        Check.due("17: 8/9 to the 7th", mixed.lengthTop(7), 2097152);
        Check.due("18: 8/9 to the 7th", mixed.lengthBottom(7), 4782969);
        OldMeasures same = chainOf(9, 9);
        Check.due("17: 9/9 to the 7th", same.lengthTop(7), 1);
        Check.due("18: 9/9 to the 7th", same.lengthBottom(7), 1);
    }

    private static OldMeasures chainOf(int many, int parts) {
        OldMeasures x = new OldMeasures();
        for (int added = 1; added < 8; added++) {
            x.addMeasure(added - 1, many, parts);
        }
        return x;
    }

    private static void isLonger() {
        OldMeasures x = market();
        Check.due("19: 2 than the ell", x.isLonger(2, 0), true);
        Check.due("19: the ell than 2", x.isLonger(0, 2), false);
        Check.due("19: as long", x.isLonger(1, 3), false);
        Check.due("19: as long, turned", x.isLonger(3, 1), false);
        Check.due("19: the same", x.isLonger(2, 2), false);
        x.setStandard(4);
        Check.due("19: whatever the standard", x.isLonger(1, 4), true);
    }

    private static void extremes() {
        OldMeasures x = new OldMeasures();
        Check.due("20: the ell alone", x.longest(), 0);
        Check.due("21: the ell alone", x.shortest(), 0);
        x.addMeasure(0, 5, 5);
        Check.due("20: as long as the ell", x.longest(), 0);
        Check.due("21: as long as the ell", x.shortest(), 0);
        x.addMeasure(0, 4, 5);
        x.addMeasure(0, 8, 5);
        Check.due("20: 8/5", x.longest(), 3);
        Check.due("21: 4/5", x.shortest(), 2);
        x.addMeasure(3, 7, 7);
        x.addMeasure(2, 2, 1);
        x.addMeasure(3, 1, 2);
        Check.due("20: of several the smallest number", x.longest(), 3);
        Check.due("21: of several the smallest number", x.shortest(), 2);
        x.addMeasure(2, 3, 4);
        Check.due("20: a shorter one", x.longest(), 3);
        Check.due("21: a shorter one", x.shortest(), 7);
        x.setStandard(7);
        Check.due("20: whatever the standard", x.longest(), 3);
        Check.due("21: whatever the standard", x.shortest(), 7);
    }

    private static void fewestToMeet() {
        OldMeasures x = market();
        Check.due("22: 3/4 and 1", x.fewestToMeet(1, 0), 4);
        Check.due("22: 1 and 3/4", x.fewestToMeet(0, 1), 3);
        Check.due("22: 9/8 and 3/4", x.fewestToMeet(2, 3), 2);
        Check.due("22: 3/4 and 9/8", x.fewestToMeet(3, 2), 3);
        Check.due("22: as long", x.fewestToMeet(1, 3), 1);
        Check.due("22: the same", x.fewestToMeet(4, 4), 1);
        Check.due("22: 9/8 in 1/8", x.fewestToMeet(2, 4), 1);
        Check.due("22: 1/8 in 9/8", x.fewestToMeet(4, 2), 9);
        x.setStandard(2);
        Check.due("22: whatever the standard", x.fewestToMeet(1, 0), 4);
        Check.due("22: 8/9 to the 7th", chainOf(8, 9).fewestToMeet(7, 0), 4782969);
    }

    private static void changesNothing() {
        OldMeasures x = market();
        Check.unchangedBy("15 to 22", x, () -> {
            x.baseOf(4);
            x.stepsToEll(4);
            x.lengthTop(4);
            x.lengthBottom(4);
            x.isLonger(4, 3);
            x.longest();
            x.shortest();
            x.fewestToMeet(4, 3);
        });
    }
}
