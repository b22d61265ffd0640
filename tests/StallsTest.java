/** Promises 29 to 35: stalls. */
final class StallsTest {
    /** The standard 1 is 3/4 of an ell, 2 is 1/3 of an ell, so 4/9; the drifts are 7 and -7. */
    private static OldMeasures market() {
        OldMeasures x = new OldMeasures();
        x.addMeasure(0, 3, 4);
        x.addMeasure(0, 1, 3);
        x.setStandard(1);
        x.addStall(7);
        x.addStall(-7);
        x.passDays(1);
        return x;
    }

    public static void main(String[] args) {
        driftAndWear();
        isHonest();
        getsAt();
        lossAt();
        mostHonest();
        mostGenerous();
        changesNothing();
        Check.end("StallsTest");
    }

    private static void driftAndWear() {
        OldMeasures x = market();
        Check.due("29: driftOf(0)", x.driftOf(0), 7);
        Check.due("29: driftOf(1)", x.driftOf(1), -7);
        Check.due("30: wearOf(0)", x.wearOf(0), 7);
        Check.due("30: wearOf(1)", x.wearOf(1), -7);
        x.setWear(0, 2);
        x.seal(1);
        Check.due("29: driftOf(0) behind setWear", x.driftOf(0), 7);
        Check.due("29: driftOf(1) behind seal", x.driftOf(1), 0);
        Check.due("30: wearOf(0) behind setWear", x.wearOf(0), 2);
        Check.due("30: wearOf(1) behind seal", x.wearOf(1), -7);
        x.passDays(1);
        Check.due("29: driftOf(0) behind a day", x.driftOf(0), 9);
        Check.due("29: driftOf(1) behind a day", x.driftOf(1), -7);
    }

    private static void isHonest() {
        OldMeasures x = market();
        for (int stall = 0; stall < 2; stall++) {
            Check.due("31: 7 away at 10", x.isHonest(stall), true);
            x.setTolerance(7);
            Check.due("31: 7 away at 7", x.isHonest(stall), true);
            x.setTolerance(6);
            Check.due("31: 7 away at 6", x.isHonest(stall), false);
            x.setTolerance(0);
            Check.due("31: 7 away at 0", x.isHonest(stall), false);
            x.seal(stall);
            Check.due("31: 0 away at 0", x.isHonest(stall), true);
            x.setTolerance(10);
        }
    }

    private static void getsAt() {
        OldMeasures x = market();
        Check.due("32: 3 ells at 7", x.getsAt(0, 3, 0), 4028);
        Check.due("32: 3 ells at -7", x.getsAt(1, 3, 0), 3972);
        Check.due("32: 1 of the standard", x.getsAt(0, 1, 1), 1007);
        Check.due("32: 200 of the standard", x.getsAt(1, 200, 1), 198600);
        Check.due("32: 1 ell at 7, cut", x.getsAt(0, 1, 0), 1342);
        Check.due("32: 7 of 2 at 7, cut at the end alone", x.getsAt(0, 7, 2), 3132);
        Check.due("32: 7 of 2 at -7, cut at the end alone", x.getsAt(1, 7, 2), 3089);
        x.seal(0);
        Check.due("32: 7 of 2 at 0", x.getsAt(0, 7, 2), 3111);
        x.setStandard(0);
        Check.due("32: 7 of 2 at -7 in ells", x.getsAt(1, 7, 2), 2317);
        OldMeasures far = new OldMeasures();
        for (int added = 1; added < 8; added++) {
            far.addMeasure(added - 1, 9, 1);
        }
        far.addStall(9);
        far.addStall(9);
        far.passDays(1);
        Check.due("32: 200 of the longest", far.getsAt(0, 200, 7), 965203144200L);
        far.setStandard(7);
        Check.due("32: 200 ells in the longest", far.getsAt(0, 200, 0), 0);
    }

    private static void lossAt() {
        OldMeasures x = market();
        Check.due("33: 3 ells at 7", x.lossAt(0, 3, 0), -28);
        Check.due("33: 3 ells at -7", x.lossAt(1, 3, 0), 28);
        Check.due("33: 7 of 2 at 7, both cut", x.lossAt(0, 7, 2), -21);
        Check.due("33: 7 of 2 at -7, both cut", x.lossAt(1, 7, 2), 22);
        Check.due("33: 2 ells at 7, both cut", x.lossAt(0, 2, 0), -19);
        Check.due("33: 200 of the standard", x.lossAt(1, 200, 1), 1400);
        x.seal(1);
        Check.due("33: at 0", x.lossAt(1, 7, 2), 0);
    }

    private static void mostHonest() {
        OldMeasures x = new OldMeasures();
        Check.due("34: without stalls", x.mostHonest(), -1);
        x.setTolerance(100);
        x.addStall(-6);
        Check.due("34: one stall", x.mostHonest(), 0);
        x.addStall(-4);
        x.addStall(4);
        x.addStall(5);
        Check.due("34: all at 0", x.mostHonest(), 0);
        x.passDays(1);
        Check.due("34: -4 and 4", x.mostHonest(), 1);
        x.seal(3);
        Check.due("34: 0 is nearest", x.mostHonest(), 3);
        x.setWear(3, 3);
        x.passDays(2);
        Check.due("34: 6 is nearer than 12", x.mostHonest(), 3);
        x.seal(0);
        x.seal(3);
        Check.due("34: two at 0", x.mostHonest(), 0);
    }

    private static void mostGenerous() {
        OldMeasures x = new OldMeasures();
        Check.due("35: without stalls", x.mostGenerous(), -1);
        x.setTolerance(100);
        x.addStall(-9);
        x.passDays(10);
        Check.due("35: one stall far below 0", x.mostGenerous(), 0);
        x.seal(0);
        x.addStall(-3);
        x.addStall(-3);
        Check.due("35: all at 0", x.mostGenerous(), 0);
        x.passDays(1);
        Check.due("35: -9, -3, -3", x.mostGenerous(), 1);
        x.addStall(8);
        x.addStall(8);
        Check.due("35: 0 is greater", x.mostGenerous(), 3);
        x.passDays(1);
        Check.due("35: 8 and 8", x.mostGenerous(), 3);
        x.setWear(4, 9);
        x.passDays(1);
        Check.due("35: 16 and 17", x.mostGenerous(), 4);
    }

    private static void changesNothing() {
        OldMeasures x = market();
        Check.unchangedBy("29 to 35", x, () -> {
            x.driftOf(1);
            x.wearOf(1);
            x.isHonest(1);
            x.getsAt(1, 7, 2);
            x.lossAt(1, 7, 2);
            x.mostHonest();
            x.mostGenerous();
        });
    }
}
