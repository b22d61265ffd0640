/** What the document's "Terms" say of measures, stalls and days, each at its edges. */
final class TermsTest {
    private static final int MOST_TOLERANCE = 100;

    public static void main(String[] args) {
        measuresAreNumberedFrom0To7();
        aBaseHasASmallerNumber();
        aLengthIsNotCut();
        aLengthHasNoCommonDivisor();
        theEllIsTheStandardAtFirst();
        piecesAreTakenLongestFirst();
        aLengthIsToldIfNothingIsLeft();
        stallsAreNumberedFrom0To5();
        aDriftIs0AtFirst();
        rodsAreLongerOrShorterByTheDrift();
        isHonestUpToTheTolerance();
        isFinedBeyondTheTolerance();
        theToleranceIs10AtFirst();
        driftsChangeBeforeTheInspectorComes();
        theInspectorComesToTheRestOfTheDay();
        theInspectorComesToOneStallADay();
        theRestIsThatOfTheDayBeforeItGrows();
        Check.end("TermsTest");
    }

    private static void measuresAreNumberedFrom0To7() {
        OldMeasures x = new OldMeasures();
        for (int due = 1; due < Markets.MOST_MEASURES; due++) {
            Check.due("at most 8: measures() ahead of " + due, x.measures(), due);
            Check.due("at most 8: the number of " + due, x.addMeasure(0, due, 9), due);
        }
        Check.due("at most 8: measures()", x.measures(), 8);
        Check.due("at most 8: top of the last", x.lengthTop(7), 7);
        Check.due("at most 8: bottom of the last", x.lengthBottom(7), 9);
        Check.full("at most 8: a ninth", x, () -> x.addMeasure(0, 8, 9));
    }

    private static void aBaseHasASmallerNumber() {
        for (int count = 1; count < Markets.MOST_MEASURES; count++) {
            OldMeasures x = Markets.of(count, 0);
            int own = count;
            Check.outOfBounds("a base: its own number " + own, x, () -> x.addMeasure(own, 1, 1));
            Check.due("a base: the number before", x.addMeasure(own - 1, 1, 1), own);
            Check.due("a base: baseOf(" + own + ")", x.baseOf(own), own - 1);
        }
    }

    private static void aLengthIsNotCut() {
        for (int parts = 1; parts <= 9; parts++) {
            OldMeasures x = new OldMeasures();
            x.addMeasure(0, 1, parts);
            x.addMeasure(1, 1, parts);
            x.addMeasure(2, 1, parts);
            x.addMeasure(3, parts, 1);
            x.addMeasure(4, parts, 1);
            x.addMeasure(5, parts, 1);
            int cube = parts * parts * parts;
            Check.due("not cut: top of 1/" + cube, x.lengthTop(3), 1);
            Check.due("not cut: bottom of 1/" + cube, x.lengthBottom(3), cube);
            Check.due("not cut: top of " + cube + "/" + cube, x.lengthTop(6), 1);
            Check.due("not cut: bottom of " + cube + "/" + cube, x.lengthBottom(6), 1);
        }
    }

    /** All that can be told by the ell, in ells, and the ell in each of them. */
    private static void aLengthHasNoCommonDivisor() {
        for (int many = 1; many <= 9; many++) {
            for (int parts = 1; parts <= 9; parts++) {
                OldMeasures x = new OldMeasures();
                x.addMeasure(0, many, parts);
                int divisor = greatestDivisor(many, parts);
                String of = " of " + many + "/" + parts;
                Check.due("no divisor: top" + of, x.lengthTop(1), many / divisor);
                Check.due("no divisor: bottom" + of, x.lengthBottom(1), parts / divisor);
                x.setStandard(1);
                Check.due("no divisor: top of the ell in one" + of, x.lengthTop(0), parts / divisor);
                Check.due("no divisor: bottom of the ell in one" + of, x.lengthBottom(0), many / divisor);
                Check.due("no divisor: top of the standard" + of, x.lengthTop(1), 1);
                Check.due("no divisor: bottom of the standard" + of, x.lengthBottom(1), 1);
            }
        }
    }

    private static int greatestDivisor(int one, int other) {
        int found = 1;
        for (int divisor = 2; divisor <= one; divisor++) {
            if (one % divisor == 0 && other % divisor == 0) {
                found = divisor;
            }
        }
        return found;
    }

    private static void theEllIsTheStandardAtFirst() {
        OldMeasures x = new OldMeasures();
        Check.due("the ell is the standard", x.standard(), 0);
        x.addMeasure(0, 5, 1);
        Check.due("the ell is the standard behind addMeasure", x.standard(), 0);
        Check.due("the ell was the standard", x.setStandard(1), 0);
    }

    /** Of 4 and 3 parts, 6 are told as 4 and 2 left, though 3 and 3 would leave nothing. */
    private static void piecesAreTakenLongestFirst() {
        OldMeasures x = new OldMeasures();
        x.addMeasure(0, 3, 4);
        Check.due("longest first: ells in 2 of 3/4", x.piecesOf(2, 1, 0), 1);
        Check.due("longest first: 3/4 in 2 of 3/4", x.piecesOf(2, 1, 1), 0);
        Check.due("longest first: 2 of 3/4", x.pieces(2, 1), 1);
        Check.due("longest first: 2 of 3/4 are not told", x.isTold(2, 1), false);
        // Just as long as the longest one, and just below it.
        Check.due("as often as it goes: 4 of 3/4 in ells", x.piecesOf(4, 1, 0), 3);
        Check.due("as often as it goes: 3/4 in 4 of 3/4", x.piecesOf(4, 1, 1), 0);
        Check.due("as often as it goes: 1 ell", x.piecesOf(1, 0, 0), 1);
        Check.due("as often as it goes: 1 of 3/4 in ells", x.piecesOf(1, 1, 0), 0);
        Check.due("as often as it goes: 1 of 3/4", x.piecesOf(1, 1, 1), 1);
    }

    private static void aLengthIsToldIfNothingIsLeft() {
        OldMeasures x = new OldMeasures();
        x.addMeasure(0, 8, 9);
        // In ninths the measures are 9 and 8: of 72 nothing is left, of 64 one.
        Check.due("told: 9 of 8/9", x.isTold(9, 1), true);
        Check.due("told: 8 of 8/9", x.isTold(8, 1), false);
        Check.due("told: 1 of 8/9", x.isTold(1, 1), true);
        x.addMeasure(0, 1, 9);
        Check.due("told: 8 of 8/9 with ninths", x.isTold(8, 1), true);
    }

    private static void stallsAreNumberedFrom0To5() {
        OldMeasures x = new OldMeasures();
        for (int due = 0; due < Markets.MOST_STALLS; due++) {
            Check.due("at most 6: stalls() ahead of " + due, x.stalls(), due);
            Check.due("at most 6: the number of " + due, x.addStall(due), due);
        }
        Check.due("at most 6: stalls()", x.stalls(), 6);
        Check.due("at most 6: wear of the last", x.wearOf(5), 5);
        Check.full("at most 6: a seventh", x, () -> x.addStall(6));
    }

    private static void aDriftIs0AtFirst() {
        OldMeasures x = new OldMeasures();
        x.setTolerance(100);
        for (int added = 0; added < Markets.MOST_STALLS; added++) {
            x.addStall(added % 2 == 0 ? 9 : -9);
            Check.due("a drift is 0 at first, of " + added, x.driftOf(added), 0);
            x.passDays(1);
        }
    }

    private static void rodsAreLongerOrShorterByTheDrift() {
        for (int drift = -101; drift <= 101; drift++) {
            OldMeasures x = Markets.withDrift(drift);
            Check.due("drift " + drift, x.driftOf(1), drift);
            Check.due("32: an ell at " + drift, x.getsAt(1, 1, 0), 1000 + drift);
            Check.due("33: an ell at " + drift, x.lossAt(1, 1, 0), -drift);
        }
    }

    private static void isHonestUpToTheTolerance() {
        for (int tolerance = 0; tolerance <= MOST_TOLERANCE; tolerance++) {
            honest(tolerance, tolerance, true);
            honest(-tolerance, tolerance, true);
            honest(tolerance + 1, tolerance, false);
            honest(-tolerance - 1, tolerance, false);
        }
    }

    private static void honest(int drift, int tolerance, boolean due) {
        OldMeasures x = Markets.withDrift(drift);
        x.setTolerance(tolerance);
        Check.due("31: the drift " + drift + " at the tolerance " + tolerance, x.isHonest(1), due);
    }

    private static void isFinedBeyondTheTolerance() {
        for (int tolerance = 0; tolerance <= MOST_TOLERANCE; tolerance++) {
            fined(tolerance, tolerance, 0);
            fined(-tolerance, tolerance, 0);
            fined(tolerance + 1, tolerance, tolerance + 1);
            fined(-tolerance - 1, tolerance, tolerance + 1);
        }
    }

    /** In two days the inspector comes to each of the two stalls once; the first stands at 0. */
    private static void fined(int drift, int tolerance, int due) {
        OldMeasures x = Markets.withDrift(drift);
        x.setWear(1, 0);
        x.setTolerance(tolerance);
        int left = due == 0 ? drift : 0;
        String at = " at " + drift + ", the tolerance " + tolerance;
        Check.due("37: the fine" + at, x.finesIn(2), due);
        Check.due("36: the drift behind it" + at, x.driftIn(1, 2), left);
        Check.due("38: whether it is fined" + at, x.daysUntilFined(1) > 0, due > 0);
        Check.due("8: the fine" + at, x.passDays(2), due);
        Check.due("8: the drift behind it" + at, x.driftOf(1), left);
        Check.due("14: fines()" + at, x.fines(), due);
    }

    private static void theToleranceIs10AtFirst() {
        OldMeasures x = new OldMeasures();
        Check.due("10 at first", x.tolerance(), 10);
        x.addStall(1);
        Check.due("10 at first: 10 is honest", x.passDays(10), 0);
        Check.due("10 at first: 11 is not", x.passDays(1), 11);
    }

    private static void driftsChangeBeforeTheInspectorComes() {
        OldMeasures x = new OldMeasures();
        x.setTolerance(9);
        x.addStall(9);
        Check.due("a day: 9 is honest", x.passDays(1), 0);
        x.setTolerance(8);
        Check.due("a day: the wear of this day is in the fine", x.passDays(1), 18);
        Check.due("a day: 0 behind the fine", x.driftOf(0), 0);
        x.setWear(0, -1);
        x.setTolerance(100);
        x.passDays(5);
        x.setTolerance(4);
        x.setWear(0, 1);
        Check.due("a day: honest again by the wear of this day", x.passDays(1), 0);
        Check.due("a day: its drift", x.driftOf(0), -4);
    }

    private static void theInspectorComesToTheRestOfTheDay() {
        for (int stalls = 1; stalls <= Markets.MOST_STALLS; stalls++) {
            OldMeasures x = new OldMeasures();
            x.setTolerance(0);
            for (int added = 0; added < stalls; added++) {
                x.addStall(added + 1);
            }
            for (int day = 0; day <= 2 * stalls; day++) {
                int visited = day % stalls;
                int since = day < stalls ? day + 1 : stalls;
                String at = ", day " + day + " of " + stalls + " stalls";
                Check.due("38: the one that is visited" + at, x.daysUntilFined(visited), 1);
                Check.due("8: what it pays" + at, x.passDays(1), (visited + 1) * since);
                Check.due("8: its drift" + at, x.driftOf(visited), 0);
                Check.due("11: days()" + at, x.days(), day + 1);
            }
        }
    }

    private static void theInspectorComesToOneStallADay() {
        OldMeasures x = new OldMeasures();
        x.setTolerance(0);
        for (int added = 0; added < Markets.MOST_STALLS; added++) {
            x.addStall(-9);
        }
        Check.due("one a day: the fine", x.passDays(1), 9);
        for (int stall = 1; stall < Markets.MOST_STALLS; stall++) {
            Check.due("one a day: the drift of " + stall, x.driftOf(stall), -9);
            Check.due("one a day: not honest, " + stall, x.isHonest(stall), false);
        }
    }

    private static void theRestIsThatOfTheDayBeforeItGrows() {
        OldMeasures x = new OldMeasures();
        x.setTolerance(0);
        Check.due("without stalls nobody pays", x.passDays(5), 0);
        Check.due("without stalls days go by", x.days(), 5);
        x.addStall(1);
        x.addStall(2);
        x.addStall(3);
        Check.due("day 5 of 3 stalls: the stall 2 pays", x.passDays(1), 3);
        x.addStall(4);
        Check.due("day 6 of 4 stalls: the stall 2 pays again", x.passDays(1), 3);
        Check.due("day 7 of 4 stalls: the stall 3 pays", x.passDays(1), 8);
        Check.due("day 8 of 4 stalls: the stall 0 pays", x.passDays(1), 4);
    }
}
