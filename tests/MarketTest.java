/** Promises 1 to 8: a new object, and what changes it. */
final class MarketTest {
    public static void main(String[] args) {
        newObject();
        addMeasure();
        setStandard();
        addStall();
        setWear();
        seal();
        setTolerance();
        passDaysOfOneStall();
        passDaysOfSeveral();
        passDaysEdges();
        Check.end("MarketTest");
    }

    private static void newObject() {
        OldMeasures x = new OldMeasures();
        Check.due("1: measures()", x.measures(), 1);
        Check.due("1: stalls()", x.stalls(), 0);
        Check.due("1: days()", x.days(), 0);
        Check.due("1: standard()", x.standard(), 0);
        Check.due("1: tolerance()", x.tolerance(), 10);
        Check.due("1: fines()", x.fines(), 0);
        Check.due("1: baseOf(0)", x.baseOf(0), -1);
        Check.due("1: lengthTop(0)", x.lengthTop(0), 1);
        Check.due("1: lengthBottom(0)", x.lengthBottom(0), 1);
        OldMeasures other = new OldMeasures();
        x.addMeasure(0, 2, 3);
        x.addStall(4);
        x.passDays(5);
        Check.due("1: each market is its own", Snapshot.of(other), Snapshot.of(new OldMeasures()));
    }

    private static void addMeasure() {
        OldMeasures x = new OldMeasures();
        Check.due("2: addMeasure(0, 1, 9)", x.addMeasure(0, 1, 9), 1);
        Check.due("2: addMeasure(1, 9, 1)", x.addMeasure(1, 9, 1), 2);
        Check.due("2: addMeasure(0, 3, 4)", x.addMeasure(0, 3, 4), 3);
        Check.due("2: addMeasure(3, 5, 9)", x.addMeasure(3, 5, 9), 4);
        Check.due("2: measures()", x.measures(), 5);
        Check.due("2: top of a ninth", x.lengthTop(1), 1);
        Check.due("2: bottom of a ninth", x.lengthBottom(1), 9);
        Check.due("2: top of nine ninths", x.lengthTop(2), 1);
        Check.due("2: bottom of nine ninths", x.lengthBottom(2), 1);
        Check.due("2: top of 5/9 of 3/4", x.lengthTop(4), 5);
        Check.due("2: bottom of 5/9 of 3/4", x.lengthBottom(4), 12);
        Check.due("2: base of 4", x.baseOf(4), 3);
    }

    private static void setStandard() {
        OldMeasures x = new OldMeasures();
        x.addMeasure(0, 3, 8);
        x.addMeasure(1, 5, 6);
        Check.due("3: setStandard(2)", x.setStandard(2), 0);
        Check.due("3: standard()", x.standard(), 2);
        Check.due("3: top of the ell", x.lengthTop(0), 16);
        Check.due("3: bottom of the ell", x.lengthBottom(0), 5);
        Check.due("3: top of the standard", x.lengthTop(2), 1);
        Check.due("3: bottom of the standard", x.lengthBottom(2), 1);
        Check.due("3: setStandard(1)", x.setStandard(1), 2);
        Check.due("3: setStandard(1) again", x.setStandard(1), 1);
        Check.due("3: top of 2 in 1", x.lengthTop(2), 5);
        Check.due("3: bottom of 2 in 1", x.lengthBottom(2), 6);
        Check.due("3: setStandard(0)", x.setStandard(0), 1);
    }

    private static void addStall() {
        OldMeasures x = new OldMeasures();
        Check.due("4: addStall(-9)", x.addStall(-9), 0);
        Check.due("4: addStall(9)", x.addStall(9), 1);
        Check.due("4: wear of 0", x.wearOf(0), -9);
        Check.due("4: wear of 1", x.wearOf(1), 9);
        x.passDays(1);
        Check.due("4: addStall(0)", x.addStall(0), 2);
        Check.due("4: drift of a new one", x.driftOf(2), 0);
        Check.due("4: addStall(1)", x.addStall(1), 3);
        Check.due("4: addStall(2)", x.addStall(2), 4);
        Check.due("4: addStall(3)", x.addStall(3), 5);
        Check.due("4: stalls()", x.stalls(), 6);
    }

    private static void setWear() {
        OldMeasures x = new OldMeasures();
        x.addStall(3);
        x.addStall(4);
        x.setTolerance(100);
        x.passDays(2);
        Check.due("5: setWear(1, -9)", x.setWear(1, -9), 4);
        Check.due("5: setWear(1, 9)", x.setWear(1, 9), -9);
        Check.due("5: wear of 1", x.wearOf(1), 9);
        Check.due("5: wear of 0", x.wearOf(0), 3);
        Check.due("5: drift of 1 stays", x.driftOf(1), 8);
        x.passDays(1);
        Check.due("5: drift of 1 with its new wear", x.driftOf(1), 17);
    }

    private static void seal() {
        OldMeasures x = new OldMeasures();
        x.addStall(4);
        x.addStall(-3);
        x.setTolerance(100);
        x.passDays(2);
        Check.due("6: seal(1)", x.seal(1), -6);
        Check.due("6: drift of 1", x.driftOf(1), 0);
        Check.due("6: drift of 0", x.driftOf(0), 8);
        Check.due("6: wear of 1 stays", x.wearOf(1), -3);
        Check.due("6: seal(1) again", x.seal(1), 0);
        Check.due("6: seal(0)", x.seal(0), 8);
        Check.due("6: no fine", x.fines(), 0);
    }

    private static void setTolerance() {
        OldMeasures x = new OldMeasures();
        Check.due("7: setTolerance(0)", x.setTolerance(0), 10);
        Check.due("7: setTolerance(100)", x.setTolerance(100), 0);
        Check.due("7: tolerance()", x.tolerance(), 100);
        Check.due("7: setTolerance(37)", x.setTolerance(37), 100);
        Check.due("7: tolerance() at the end", x.tolerance(), 37);
    }

    private static void passDaysOfOneStall() {
        OldMeasures x = new OldMeasures();
        x.addStall(5);
        Check.due("8: 5 is honest", x.passDays(1), 0);
        Check.due("8: 10 is honest", x.passDays(1), 0);
        Check.due("8: drift", x.driftOf(0), 10);
        Check.due("8: 15 is not", x.passDays(1), 15);
        Check.due("8: drift behind a fine", x.driftOf(0), 0);
        x.setWear(0, -6);
        Check.due("8: -6 is honest", x.passDays(1), 0);
        Check.due("8: -12 pays 12", x.passDays(1), 12);
        Check.due("8: fines()", x.fines(), 27);
        Check.due("8: days()", x.days(), 5);
        x.setTolerance(0);
        x.setWear(0, 0);
        Check.due("8: a drift of 0 is honest at 0", x.passDays(1), 0);
        x.setWear(0, 1);
        Check.due("8: 1 is not", x.passDays(2), 2);
        x.setTolerance(100);
        x.setWear(0, 9);
        Check.due("8: 99 is honest at 100", x.passDays(11), 0);
        x.setWear(0, 1);
        Check.due("8: 100 is honest at 100", x.passDays(1), 0);
        Check.due("8: 101 is not", x.passDays(1), 101);
    }

    private static void passDaysOfSeveral() {
        OldMeasures x = new OldMeasures();
        x.addStall(9);
        x.addStall(-7);
        x.addStall(8);
        x.setTolerance(6);
        Check.due("8: day 0 visits the stall 0", x.passDays(1), 9);
        Check.due("8: day 1 visits the stall 1", x.passDays(1), 14);
        Check.due("8: day 2 visits the stall 2", x.passDays(1), 24);
        Check.due("8: drift of 0", x.driftOf(0), 18);
        Check.due("8: drift of 1", x.driftOf(1), -7);
        Check.due("8: drift of 2", x.driftOf(2), 0);
        Check.due("8: day 3 visits the stall 0", x.passDays(1), 27);
        x.addStall(1);
        Check.due("8: day 4 of 4 stalls visits the stall 0 again", x.passDays(1), 9);
        Check.due("8: day 5 visits the stall 1", x.passDays(1), 28);
        Check.due("8: days 6 and 7", x.passDays(2), 32);
        Check.due("8: fines()", x.fines(), 143);
        Check.due("8: drift of 3", x.driftOf(3), 4);
        Check.due("8: days()", x.days(), 8);
    }

    private static void passDaysEdges() {
        OldMeasures x = new OldMeasures();
        Check.due("8: without stalls", x.passDays(60), 0);
        Check.due("8: without stalls, one day", x.passDays(1), 0);
        Check.due("8: days()", x.days(), 61);
        x.addStall(9);
        Check.due("8: 60 days", x.passDays(60), 540);
        Check.due("8: days()", x.days(), 121);
    }
}
