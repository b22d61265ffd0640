/** Promises 36 to 40: what would be. */
final class ForecastTest {
    private static OldMeasures marketOf(int tolerance, int... wears) {
        OldMeasures x = new OldMeasures();
        x.setTolerance(tolerance);
        for (int wear : wears) {
            x.addStall(wear);
        }
        return x;
    }

    /** In the midst of things: day 7, four stalls that stand anywhere. */
    private static OldMeasures busyMarket() {
        OldMeasures x = marketOf(21, 9, -7, 1);
        x.addMeasure(0, 5, 3);
        x.addMeasure(1, 2, 7);
        x.setStandard(1);
        x.passDays(7);
        x.addStall(-4);
        return x;
    }

    public static void main(String[] args) {
        driftIn();
        finesIn();
        daysUntilFined();
        bestDayAt();
        asItComes();
        changesNothing();
        meanDrift();
        Check.end("ForecastTest");
    }

    private static void driftIn() {
        OldMeasures x = marketOf(10, 5);
        Check.due("36: a day", x.driftIn(0, 1), 5);
        Check.due("36: two days", x.driftIn(0, 2), 10);
        Check.due("36: fined", x.driftIn(0, 3), 0);
        Check.due("36: and on", x.driftIn(0, 59), 10);
        Check.due("36: 60 days", x.driftIn(0, 60), 0);
        OldMeasures two = marketOf(10, 5, -9);
        Check.due("36: the second is visited on day 1", two.driftIn(1, 2), 0);
        Check.due("36: the second behind a day", two.driftIn(1, 1), -9);
        Check.due("36: the first behind two days", two.driftIn(0, 2), 10);
    }

    private static void finesIn() {
        OldMeasures none = new OldMeasures();
        Check.due("37: without stalls", none.finesIn(60), 0);
        OldMeasures x = marketOf(10, 5);
        Check.due("37: two days", x.finesIn(2), 0);
        Check.due("37: three days", x.finesIn(3), 15);
        Check.due("37: 60 days", x.finesIn(60), 300);
        Check.due("37: below 0", marketOf(10, -5).finesIn(60), 300);
        Check.due("37: two stalls", marketOf(10, 5, -9).finesIn(3), 33);
    }

    private static void daysUntilFined() {
        Check.due("38: wear 5", marketOf(10, 5).daysUntilFined(0), 3);
        Check.due("38: wear -5", marketOf(10, -5).daysUntilFined(0), 3);
        Check.due("38: in the next one", marketOf(8, 9).daysUntilFined(0), 1);
        Check.due("38: a fine of 1", marketOf(0, -1).daysUntilFined(0), 1);
        Check.due("38: no wear", marketOf(0, 0).daysUntilFined(0), -1);
        Check.due("38: behind 60", marketOf(59, 1).daysUntilFined(0), 60);
        Check.due("38: behind 61 is too late", marketOf(60, 1).daysUntilFined(0), -1);
        OldMeasures x = marketOf(10, 9, 9, 9);
        Check.due("38: three stalls, the first", x.daysUntilFined(0), 4);
        Check.due("38: three stalls, the second", x.daysUntilFined(1), 2);
        Check.due("38: three stalls, the third", x.daysUntilFined(2), 3);
        x.passDays(1);
        Check.due("38: a day later, the first", x.daysUntilFined(0), 3);
        Check.due("38: a day later, the second", x.daysUntilFined(1), 1);
    }

    private static void bestDayAt() {
        Check.due("39: of several the fewest", marketOf(10, 5).bestDayAt(0), 2);
        Check.due("39: wear below 0", marketOf(10, -5).bestDayAt(0), 0);
        Check.due("39: no wear", marketOf(10, 0).bestDayAt(0), 0);
        Check.due("39: 30 at most", marketOf(100, 1).bestDayAt(0), 30);
        Check.due("39: fined each day", marketOf(0, 9).bestDayAt(0), 0);
        OldMeasures x = marketOf(30, 1);
        Check.due("39: 30 is honest", x.bestDayAt(0), 30);
        x.setTolerance(29);
        Check.due("39: 30 is not", x.bestDayAt(0), 29);
        x.setTolerance(100);
        x.passDays(12);
        x.setWear(0, -1);
        Check.due("39: now is best", x.bestDayAt(0), 0);
        x.setTolerance(5);
        Check.due("39: now is best, though fined", x.bestDayAt(0), 0);
        x.seal(0);
        x.setWear(0, -9);
        x.setTolerance(100);
        x.passDays(5);
        Check.due("39: best when its drift is 0 again", x.bestDayAt(0), 7);
    }

    /** What is foretold is what comes. */
    private static void asItComes() {
        for (int days = 1; days <= 60; days++) {
            OldMeasures x = busyMarket();
            OldMeasures later = busyMarket();
            Check.due("37: finesIn(" + days + ")", x.finesIn(days), later.passDays(days));
            for (int stall = 0; stall < 4; stall++) {
                Check.due("36: driftIn(" + stall + ", " + days + ")", x.driftIn(stall, days),
                        later.driftOf(stall));
            }
        }
        for (int stall = 0; stall < 4; stall++) {
            Check.due("39: bestDayAt(" + stall + ")", busyMarket().bestDayAt(stall), bestDayByPassing(stall));
        }
    }

    private static void changesNothing() {
        for (int stall = 0; stall < 4; stall++) {
            int asked = stall;
            OldMeasures x = busyMarket();
            Check.unchangedBy("36 to 41, " + stall, x, () -> {
                x.driftIn(asked, 60);
                x.finesIn(60);
                x.daysUntilFined(asked);
                x.bestDayAt(asked);
                x.meanDrift();
                x.digest();
            });
            Check.due("36 to 41: later as before, " + stall, x.passDays(60), busyMarket().passDays(60));
        }
    }

    private static int bestDayByPassing(int stall) {
        OldMeasures x = busyMarket();
        int best = 0;
        int greatest = x.driftOf(stall);
        for (int day = 1; day <= 30; day++) {
            x.passDays(1);
            if (x.driftOf(stall) > greatest) {
                best = day;
                greatest = x.driftOf(stall);
            }
        }
        return best;
    }

    private static void meanDrift() {
        OldMeasures x = new OldMeasures();
        Check.due("40: without stalls", x.meanDrift(), 0.0);
        x.setTolerance(100);
        x.addStall(-9);
        Check.due("40: one stall at 0", x.meanDrift(), 0.0);
        x.passDays(2);
        Check.due("40: one stall", x.meanDrift(), -18.0);
        x.seal(0);
        x.addStall(2);
        Check.due("40: all at 0", x.meanDrift(), 0.0);
        x.passDays(1);
        Check.due("40: -9 and 2", x.meanDrift(), -3.5);
        x.addStall(-3);
        Check.due("40: -9, 2 and 0", x.meanDrift(), -7.0 / 3.0);
        x.passDays(1);
        Check.due("40: -18, 4 and -3", x.meanDrift(), -17.0 / 3.0);
        x.seal(0);
        Check.due("40: 0, 4 and -3", x.meanDrift(), 1.0 / 3.0);
        x.addStall(0);
        x.addStall(0);
        x.addStall(0);
        Check.due("40: six stalls", x.meanDrift(), 1.0 / 6.0);
    }
}
