/** "Of several the smallest number", "the fewest", and in pieces the one with the smallest number first. */
final class TiesTest {
    public static void main(String[] args) {
        allAsLong();
        theLastTwoAreLongest();
        theLastTwoAreShortest();
        amongThreeAsLong();
        bestOfSeveralAsLong();
        nearestTo0();
        greatestDrift();
        fewestDays();
        Check.end("TiesTest");
    }

    /** Eight measures, each as long as the ell. */
    private static void allAsLong() {
        OldMeasures x = new OldMeasures();
        for (int added = 1; added < Markets.MOST_MEASURES; added++) {
            x.addMeasure(added - 1, added, added);
            Check.due("20: all as long, " + added, x.longest(), 0);
            Check.due("21: all as long, " + added, x.shortest(), 0);
        }
        x.setStandard(7);
        for (int measure = 0; measure < Markets.MOST_MEASURES; measure++) {
            String of = "as long as the ell, " + measure;
            Check.due("17: " + of, x.lengthTop(measure), 1);
            Check.due("18: " + of, x.lengthBottom(measure), 1);
            Check.due("19: " + of, x.isLonger(measure, 0), false);
            Check.due("19: the ell, " + of, x.isLonger(0, measure), false);
            Check.due("22: " + of, x.fewestToMeet(measure, 0), 1);
            Check.due("23: " + of, x.convert(200, measure, 7), 200);
            Check.due("25: " + of, x.piecesOf(200, 7, measure), measure == 0 ? 200 : 0);
            Check.due("26: " + of, x.pieces(200, measure), 200);
            Check.due("28: " + of, x.bestMeasure(200, measure), 0);
        }
        Check.due("20: whatever the standard", x.longest(), 0);
        Check.due("21: whatever the standard", x.shortest(), 0);
    }

    private static void theLastTwoAreLongest() {
        OldMeasures x = Markets.of(6, 0);
        x.addMeasure(0, 9, 8);
        x.addMeasure(6, 7, 7);
        Check.due("20: of 6 and 7", x.longest(), 6);
        Check.due("21: the shortest is alone", x.shortest(), 5);
        Check.due("25: pieces of 6", x.piecesOf(3, 7, 6), 3);
        Check.due("25: pieces of 7", x.piecesOf(3, 7, 7), 0);
        Check.due("28: of 6 and 7", x.bestMeasure(3, 7), 6);
    }

    private static void theLastTwoAreShortest() {
        OldMeasures x = Markets.of(6, 0);
        x.addMeasure(5, 8, 9);
        x.addMeasure(6, 9, 9);
        Check.due("20: the longest is alone", x.longest(), 0);
        Check.due("21: of 6 and 7", x.shortest(), 6);
        Check.due("25: pieces of 6", x.piecesOf(1, 7, 6), 1);
        Check.due("25: pieces of 7", x.piecesOf(1, 7, 7), 0);
        Check.due("28: of 6 and 7", x.bestMeasure(1, 7), 6);
    }

    /** In fourths the measures are 4, 2, 1, 2 and 2: told among longer and shorter ones. */
    private static void amongThreeAsLong() {
        OldMeasures x = new OldMeasures();
        x.addMeasure(0, 1, 2);
        x.addMeasure(0, 1, 4);
        x.addMeasure(2, 2, 1);
        x.addMeasure(0, 2, 4);
        long[] due = {1, 1, 1, 0, 0};
        for (int other = 0; other < due.length; other++) {
            Check.due("25: 7 fourths in " + other, x.piecesOf(7, 2, other), due[other]);
        }
        Check.due("26: 7 fourths", x.pieces(7, 2), 3);
        Check.due("25: one of 3 in 1", x.piecesOf(1, 3, 1), 1);
        Check.due("25: one of 3 in 3", x.piecesOf(1, 3, 3), 0);
        Check.due("25: one of 4 in 4", x.piecesOf(1, 4, 4), 0);
    }

    private static void bestOfSeveralAsLong() {
        OldMeasures x = new OldMeasures();
        x.addMeasure(0, 3, 2);
        x.addMeasure(0, 1, 2);
        x.addMeasure(2, 3, 1);
        x.addMeasure(2, 5, 5);
        // In halves the measures are 2, 3, 1, 3 and 1.
        Check.due("28: 1 of 3 is 1 of 1", x.bestMeasure(1, 3), 1);
        Check.due("28: 3 of 4 are 1 of 1", x.bestMeasure(3, 4), 1);
        Check.due("28: 1 of 4 is 1 of 2", x.bestMeasure(1, 4), 2);
        Check.due("28: 2 of 4 are an ell", x.bestMeasure(2, 4), 0);
        Check.due("28: 3 ells are 2 of 1", x.bestMeasure(3, 0), 1);
    }

    private static void nearestTo0() {
        OldMeasures x = new OldMeasures();
        Check.due("34: without stalls", x.mostHonest(), -1);
        x.setTolerance(100);
        int[] wears = {9, -8, 7, -7, 6, -6};
        for (int wear : wears) {
            x.addStall(wear);
            Check.due("34: all at 0", x.mostHonest(), 0);
        }
        x.passDays(1);
        Check.due("34: 6 ahead of -6", x.mostHonest(), 4);
        x.setWear(4, 7);
        x.setWear(5, -7);
        x.setWear(3, -6);
        x.setWear(2, 6);
        x.passDays(1);
        Check.due("34: 13 and -13 of four", x.mostHonest(), 2);
        x.seal(5);
        Check.due("34: 0 of the last", x.mostHonest(), 5);
        x.seal(3);
        Check.due("34: 0 of two", x.mostHonest(), 3);
        OldMeasures below = new OldMeasures();
        below.addStall(-6);
        below.addStall(6);
        below.passDays(1);
        Check.due("34: -6 ahead of 6", below.mostHonest(), 0);
    }

    private static void greatestDrift() {
        OldMeasures x = new OldMeasures();
        Check.due("35: without stalls", x.mostGenerous(), -1);
        x.setTolerance(100);
        int[] wears = {-9, -8, -7, -7, -8, -7};
        for (int wear : wears) {
            x.addStall(wear);
            Check.due("35: all at 0", x.mostGenerous(), 0);
        }
        x.passDays(1);
        Check.due("35: -7 of three", x.mostGenerous(), 2);
        x.seal(5);
        Check.due("35: 0 of the last", x.mostGenerous(), 5);
        x.seal(4);
        Check.due("35: 0 of two", x.mostGenerous(), 4);
        x.setWear(4, 1);
        x.setWear(5, 2);
        x.passDays(1);
        Check.due("35: 1 and 2", x.mostGenerous(), 5);
        x.setWear(4, 9);
        x.setWear(5, 8);
        x.passDays(1);
        Check.due("35: 10 and 10", x.mostGenerous(), 4);
    }

    private static void fewestDays() {
        OldMeasures still = new OldMeasures();
        still.addStall(0);
        Check.due("39: the same on all days", still.bestDayAt(0), 0);
        OldMeasures x = new OldMeasures();
        x.addStall(4);
        Check.due("39: 8 each third day", x.bestDayAt(0), 2);
        x.passDays(1);
        Check.due("39: 8 each third day, from 4", x.bestDayAt(0), 1);
        x.passDays(1);
        Check.due("39: 8 each third day, from 8", x.bestDayAt(0), 0);
        x.passDays(1);
        Check.due("39: 8 each third day, fined", x.bestDayAt(0), 2);
        x.setWear(0, -4);
        Check.due("39: 0 each third day, from 0", x.bestDayAt(0), 0);
        x.passDays(1);
        Check.due("39: 0 each third day, from -4", x.bestDayAt(0), 2);
    }
}
