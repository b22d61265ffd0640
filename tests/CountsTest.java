/** Promises 9 to 14: what there is. */
final class CountsTest {
    public static void main(String[] args) {
        OldMeasures x = new OldMeasures();
        tell(x, "new", 1, 0, 0, 0, 10, 0);
        x.addMeasure(0, 7, 2);
        tell(x, "behind addMeasure", 2, 0, 0, 0, 10, 0);
        x.addMeasure(1, 1, 3);
        x.setStandard(1);
        tell(x, "behind setStandard", 3, 0, 0, 1, 10, 0);
        x.addStall(6);
        x.addStall(-8);
        tell(x, "behind addStall", 3, 2, 0, 1, 10, 0);
        x.setTolerance(4);
        tell(x, "behind setTolerance", 3, 2, 0, 1, 4, 0);
        x.passDays(1);
        tell(x, "behind a day", 3, 2, 1, 1, 4, 6);
        x.passDays(2);
        tell(x, "behind three days", 3, 2, 3, 1, 4, 34);
        Check.unchangedBy("finesIn(9)", x, () -> x.finesIn(9));
        x.seal(0);
        x.setWear(0, 1);
        tell(x, "behind seal and setWear", 3, 2, 3, 1, 4, 34);
        fillsUp();
        Check.end("CountsTest");
    }

    private static void tell(OldMeasures x, String when, int measures, int stalls, int days, int standard,
            int tolerance, int fines) {
        Check.due("9: measures() " + when, x.measures(), measures);
        Check.due("10: stalls() " + when, x.stalls(), stalls);
        Check.due("11: days() " + when, x.days(), days);
        Check.due("12: standard() " + when, x.standard(), standard);
        Check.due("13: tolerance() " + when, x.tolerance(), tolerance);
        Check.due("14: fines() " + when, x.fines(), fines);
    }

    private static void fillsUp() {
        OldMeasures x = new OldMeasures();
        for (int added = 1; added < 8; added++) {
            x.addMeasure(0, 1, added);
        }
        for (int added = 0; added < 6; added++) {
            x.addStall(added);
        }
        Check.due("9: measures() full", x.measures(), 8);
        Check.due("10: stalls() full", x.stalls(), 6);
        for (int call = 0; call < 400; call++) {
            x.passDays(60);
        }
        Check.due("11: days() behind 400 times 60", x.days(), 24000);
    }
}
