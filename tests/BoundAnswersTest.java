/** What the calls answer for the least and the greatest argument that is taken. */
final class BoundAnswersTest {
    public static void main(String[] args) {
        ratios();
        wears();
        tolerances();
        passedDays();
        shortAndLongOnes();
        manyAtStalls();
        foretoldDays();
        untilFinedWithin60();
        untilFinedAmongSix();
        bestDayWithin30();
        Check.end("BoundAnswersTest");
    }

    private static void ratios() {
        int[][] dues = {{1, 1, 1, 1}, {1, 9, 1, 9}, {9, 1, 9, 1}, {9, 9, 1, 1}};
        for (int[] due : dues) {
            OldMeasures x = new OldMeasures();
            String of = due[0] + " in " + due[1];
            Check.due("2: " + of, x.addMeasure(0, due[0], due[1]), 1);
            Check.due("2: top of " + of, x.lengthTop(1), due[2]);
            Check.due("2: bottom of " + of, x.lengthBottom(1), due[3]);
        }
    }

    private static void wears() {
        OldMeasures x = new OldMeasures();
        x.addStall(-9);
        x.addStall(9);
        x.passDays(1);
        Check.due("4: drift by -9", x.driftOf(0), -9);
        Check.due("4: drift by 9", x.driftOf(1), 9);
        Check.due("5: setWear(0, 9)", x.setWear(0, 9), -9);
        Check.due("5: setWear(1, -9)", x.setWear(1, -9), 9);
        x.passDays(1);
        Check.due("5: drift by 9", x.driftOf(0), 0);
        Check.due("5: drift by -9", x.driftOf(1), 0);
        Check.due("5: setWear(0, 0)", x.setWear(0, 0), 9);
        x.passDays(1);
        Check.due("5: drift by 0", x.driftOf(0), 0);
    }

    private static void tolerances() {
        OldMeasures x = new OldMeasures();
        x.addStall(1);
        Check.due("7: setTolerance(0)", x.setTolerance(0), 10);
        Check.due("7: 1 is fined at 0", x.passDays(1), 1);
        Check.due("7: setTolerance(100)", x.setTolerance(100), 0);
        Check.due("7: 60 is honest at 100", x.passDays(60), 0);
        Check.due("7: 100 is honest at 100", x.passDays(40), 0);
        Check.due("7: 101 is fined at 100", x.passDays(1), 101);
        Check.due("7: setTolerance(100) again", x.setTolerance(100), 100);
    }

    private static void passedDays() {
        OldMeasures x = new OldMeasures();
        x.setTolerance(59);
        x.addStall(1);
        Check.due("8: 60 days, the fine on the last", x.passDays(60), 60);
        Check.due("11: 60 days", x.days(), 60);
        Check.due("8: a day", x.passDays(1), 0);
        Check.due("11: 61 days", x.days(), 61);
        Check.due("29: a day", x.driftOf(0), 1);
        x.setTolerance(60);
        Check.due("8: 59 days", x.passDays(59), 0);
        Check.due("8: the fine on the first", x.passDays(1), 61);
        Check.due("14: fines()", x.fines(), 121);
    }

    /** The 1 is 9 ells, the 2 a ninth of one. */
    private static void shortAndLongOnes() {
        OldMeasures x = new OldMeasures();
        x.addMeasure(0, 9, 1);
        x.addMeasure(0, 1, 9);
        Check.due("23: 1 of the longest in the shortest", x.convert(1, 1, 2), 81);
        Check.due("23: 200 of the longest in the shortest", x.convert(200, 1, 2), 16200);
        Check.due("23: 1 of the shortest in the longest", x.convert(1, 2, 1), 0);
        Check.due("23: 200 of the shortest in the longest", x.convert(200, 2, 1), 2);
        Check.due("24: 1 of the longest in the shortest", x.isExact(1, 1, 2), true);
        Check.due("24: 1 of the shortest in the longest", x.isExact(1, 2, 1), false);
        Check.due("24: 200 of the shortest in the longest", x.isExact(200, 2, 1), false);
        Check.due("24: 162 of the shortest in the longest", x.isExact(162, 2, 1), true);
        // 200 = 2 * 81 + 4 * 9 + 2.
        Check.due("25: the longest in 200 of the shortest", x.piecesOf(200, 2, 1), 2);
        Check.due("25: ells in 200 of the shortest", x.piecesOf(200, 2, 0), 4);
        Check.due("25: the shortest in 200 of it", x.piecesOf(200, 2, 2), 2);
        Check.due("26: 1 of the shortest", x.pieces(1, 2), 1);
        Check.due("26: 200 of the shortest", x.pieces(200, 2), 8);
        Check.due("26: 200 of the longest", x.pieces(200, 1), 200);
        Check.due("27: 1 of the shortest", x.isTold(1, 2), true);
        Check.due("27: 200 of the shortest", x.isTold(200, 2), true);
        Check.due("28: 1 of the shortest", x.bestMeasure(1, 2), 2);
        Check.due("28: 200 of the shortest", x.bestMeasure(200, 2), 2);
        Check.due("28: 162 of the shortest", x.bestMeasure(162, 2), 1);
        Check.due("28: 200 of the longest", x.bestMeasure(200, 1), 1);
    }

    private static void manyAtStalls() {
        OldMeasures high = Markets.withDrift(101);
        high.addMeasure(0, 1, 3);
        Check.due("32: 1 third at 101", high.getsAt(1, 1, 1), 367);
        Check.due("32: 200 thirds at 101", high.getsAt(1, 200, 1), 73400);
        Check.due("33: 1 third at 101", high.lossAt(1, 1, 1), -34);
        Check.due("33: 200 thirds at 101", high.lossAt(1, 200, 1), -6734);
        OldMeasures low = Markets.withDrift(-101);
        low.addMeasure(0, 1, 3);
        Check.due("32: 1 third at -101", low.getsAt(1, 1, 1), 299);
        Check.due("32: 200 thirds at -101", low.getsAt(1, 200, 1), 59933);
        Check.due("33: 1 third at -101", low.lossAt(1, 1, 1), 34);
        Check.due("33: 200 thirds at -101", low.lossAt(1, 200, 1), 6733);
        Check.due("33: at 0", low.lossAt(0, 200, 1), 0);
    }

    private static void foretoldDays() {
        OldMeasures x = new OldMeasures();
        x.setTolerance(59);
        x.addStall(1);
        Check.due("36: behind 1", x.driftIn(0, 1), 1);
        Check.due("36: behind 59", x.driftIn(0, 59), 59);
        Check.due("36: behind 60", x.driftIn(0, 60), 0);
        Check.due("37: in 1", x.finesIn(1), 0);
        Check.due("37: in 59", x.finesIn(59), 0);
        Check.due("37: in 60", x.finesIn(60), 60);
        x.passDays(59);
        Check.due("36: fined behind 1", x.driftIn(0, 1), 0);
        Check.due("37: fined in 1", x.finesIn(1), 60);
    }

    private static void untilFinedWithin60() {
        for (int wear : new int[] {-1, 1}) {
            OldMeasures x = new OldMeasures();
            x.addStall(wear);
            x.setTolerance(0);
            Check.due("38: in the next day, wear " + wear, x.daysUntilFined(0), 1);
            x.setTolerance(1);
            Check.due("38: in the day after, wear " + wear, x.daysUntilFined(0), 2);
            x.setTolerance(58);
            Check.due("38: behind 59, wear " + wear, x.daysUntilFined(0), 59);
            x.setTolerance(59);
            Check.due("38: behind 60, wear " + wear, x.daysUntilFined(0), 60);
            x.setTolerance(60);
            Check.due("38: not by then, wear " + wear, x.daysUntilFined(0), -1);
            x.passDays(1);
            Check.due("38: a day later, wear " + wear, x.daysUntilFined(0), 60);
        }
    }

    /** The last of six is visited behind 6, 12, and so on up to 60. */
    private static void untilFinedAmongSix() {
        OldMeasures x = new OldMeasures();
        for (int added = 0; added < 5; added++) {
            x.addStall(9);
        }
        x.addStall(1);
        x.setTolerance(5);
        Check.due("38: at 6, behind 6", x.daysUntilFined(5), 6);
        x.setTolerance(6);
        Check.due("38: at 12, behind 12", x.daysUntilFined(5), 12);
        x.setTolerance(59);
        Check.due("38: at 60, behind 60", x.daysUntilFined(5), 60);
        x.setTolerance(60);
        Check.due("38: at 66, behind 66, too late", x.daysUntilFined(5), -1);
        x.setTolerance(5);
        x.passDays(5);
        Check.due("38: at 6, behind 1", x.daysUntilFined(5), 1);
    }

    private static void bestDayWithin30() {
        OldMeasures x = new OldMeasures();
        x.setTolerance(100);
        x.addStall(1);
        Check.due("39: behind 30, though it grows on", x.bestDayAt(0), 30);
        x.setTolerance(29);
        Check.due("39: behind 29, fined behind 30", x.bestDayAt(0), 29);
        OldMeasures below = new OldMeasures();
        below.addStall(-1);
        below.passDays(1);
        below.setTolerance(30);
        Check.due("39: at 0 behind 30", below.bestDayAt(0), 30);
        below.setTolerance(31);
        Check.due("39: at 0 behind 31, too late", below.bestDayAt(0), 0);
        below.setTolerance(1);
        Check.due("39: at 0 behind 1", below.bestDayAt(0), 1);
    }
}
