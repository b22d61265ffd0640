import java.util.function.Supplier;

/**
 * The bounds of each argument: all between them is taken, and beside them the first one on each side,
 * and the farthest, is refused and changes nothing.
 */
final class ArgumentEdgesTest {
    private static final Class<IndexOutOfBoundsException> BOUNDS = IndexOutOfBoundsException.class;
    private static final Class<IllegalArgumentException> ILLEGAL = IllegalArgumentException.class;

    interface Asked {
        void ask(OldMeasures x, int argument);
    }

    public static void main(String[] args) {
        ratios();
        wears();
        tolerances();
        days();
        manies();
        measuresToChange();
        basesOfANinth();
        measuresToAsk();
        measuresOfLengths();
        stallsToChange();
        stallsToAsk();
        Check.end("ArgumentEdgesTest");
    }

    /** Each value is tried on a market of its own. */
    private static void takesJust(int least, int most, Class<? extends RuntimeException> refusal, String name,
            Supplier<OldMeasures> market, Asked call) {
        for (int argument = least; argument <= most; argument++) {
            OldMeasures x = market.get();
            int taken = argument;
            Check.taken(name + " takes " + taken, () -> call.ask(x, taken));
        }
        for (int no : new int[] {least - 1, most + 1, Integer.MIN_VALUE, Integer.MAX_VALUE}) {
            OldMeasures x = market.get();
            Check.refused(name + " refuses " + no, refusal, x, () -> call.ask(x, no));
        }
    }

    private static void ratios() {
        takesJust(1, 9, ILLEGAL, "2: many", OldMeasures::new, (x, many) -> x.addMeasure(0, many, 1));
        takesJust(1, 9, ILLEGAL, "2: parts", OldMeasures::new, (x, parts) -> x.addMeasure(0, 1, parts));
        Supplier<OldMeasures> seven = () -> Markets.of(7, 6);
        takesJust(1, 9, ILLEGAL, "2: many of the eighth", seven, (x, many) -> x.addMeasure(6, many, 9));
        takesJust(1, 9, ILLEGAL, "2: parts of the eighth", seven, (x, parts) -> x.addMeasure(6, 9, parts));
    }

    private static void wears() {
        takesJust(-9, 9, ILLEGAL, "4: the first wear", OldMeasures::new, (x, wear) -> x.addStall(wear));
        takesJust(-9, 9, ILLEGAL, "4: the sixth wear", () -> Markets.of(8, 5), (x, wear) -> x.addStall(wear));
        takesJust(-9, 9, ILLEGAL, "5: wear", () -> Markets.of(1, 1), (x, wear) -> x.setWear(0, wear));
        takesJust(-9, 9, ILLEGAL, "5: wear of the last", Markets::full, (x, wear) -> x.setWear(5, wear));
    }

    private static void tolerances() {
        takesJust(0, 100, ILLEGAL, "7: tolerance", OldMeasures::new, (x, much) -> x.setTolerance(much));
        takesJust(0, 100, ILLEGAL, "7: tolerance when full", Markets::full, (x, much) -> x.setTolerance(much));
    }

    private static void days() {
        takesJust(1, 60, ILLEGAL, "8: days without stalls", OldMeasures::new, (x, days) -> x.passDays(days));
        takesJust(1, 60, ILLEGAL, "8: days", Markets::full, (x, days) -> x.passDays(days));
        takesJust(1, 60, ILLEGAL, "36: days", () -> Markets.of(1, 1), (x, days) -> x.driftIn(0, days));
        takesJust(1, 60, ILLEGAL, "36: days of the last", Markets::full, (x, days) -> x.driftIn(5, days));
        takesJust(1, 60, ILLEGAL, "37: days without stalls", OldMeasures::new, (x, days) -> x.finesIn(days));
        takesJust(1, 60, ILLEGAL, "37: days", Markets::full, (x, days) -> x.finesIn(days));
    }

    private static void manies() {
        for (int last : new int[] {0, 7}) {
            Supplier<OldMeasures> market = () -> Markets.of(last + 1, 2);
            String of = " of " + last;
            takesJust(1, 200, ILLEGAL, "23: many" + of, market, (x, many) -> x.convert(many, last, 0));
            takesJust(1, 200, ILLEGAL, "24: many" + of, market, (x, many) -> x.isExact(many, last, 0));
            takesJust(1, 200, ILLEGAL, "25: many" + of, market, (x, many) -> x.piecesOf(many, last, 0));
            takesJust(1, 200, ILLEGAL, "26: many" + of, market, (x, many) -> x.pieces(many, last));
            takesJust(1, 200, ILLEGAL, "27: many" + of, market, (x, many) -> x.isTold(many, last));
            takesJust(1, 200, ILLEGAL, "28: many" + of, market, (x, many) -> x.bestMeasure(many, last));
            takesJust(1, 200, ILLEGAL, "32: many" + of, market, (x, many) -> x.getsAt(1, many, last));
            takesJust(1, 200, ILLEGAL, "33: many" + of, market, (x, many) -> x.lossAt(1, many, last));
        }
    }

    /** In markets of each size, from the ell alone on. */
    private static void eachMeasure(String name, int most, Asked call) {
        for (int count = 1; count <= most; count++) {
            int measures = count;
            takesJust(0, count - 1, BOUNDS, name + ", among " + count, () -> Markets.of(measures, 1), call);
        }
    }

    /** In markets of each size, from no stalls on. */
    private static void eachStall(String name, Asked call) {
        for (int count = 0; count <= Markets.MOST_STALLS; count++) {
            int stalls = count;
            takesJust(0, count - 1, BOUNDS, name + ", among " + count, () -> Markets.of(3, stalls), call);
        }
    }

    private static void measuresToChange() {
        eachMeasure("2: base", Markets.MOST_MEASURES - 1, (x, base) -> x.addMeasure(base, 2, 3));
        eachMeasure("3: measure", Markets.MOST_MEASURES, (x, measure) -> x.setStandard(measure));
    }

    private static void basesOfANinth() {
        for (int base = 0; base < Markets.MOST_MEASURES; base++) {
            OldMeasures x = Markets.full();
            int told = base;
            Check.full("2: a ninth told by " + base, x, () -> x.addMeasure(told, 1, 1));
        }
        for (int no : new int[] {-1, 8, Integer.MIN_VALUE, Integer.MAX_VALUE}) {
            OldMeasures x = Markets.full();
            Check.outOfBounds("2: a ninth told by " + no, x, () -> x.addMeasure(no, 1, 1));
        }
    }

    private static void measuresToAsk() {
        int all = Markets.MOST_MEASURES;
        eachMeasure("15: measure", all, (x, measure) -> x.baseOf(measure));
        eachMeasure("16: measure", all, (x, measure) -> x.stepsToEll(measure));
        eachMeasure("17: measure", all, (x, measure) -> x.lengthTop(measure));
        eachMeasure("18: measure", all, (x, measure) -> x.lengthBottom(measure));
        eachMeasure("19: one", all, (x, one) -> x.isLonger(one, 0));
        eachMeasure("19: other", all, (x, other) -> x.isLonger(0, other));
        eachMeasure("19: both", all, (x, both) -> x.isLonger(both, both));
        eachMeasure("22: one", all, (x, one) -> x.fewestToMeet(one, 0));
        eachMeasure("22: other", all, (x, other) -> x.fewestToMeet(0, other));
        eachMeasure("22: both", all, (x, both) -> x.fewestToMeet(both, both));
    }

    private static void measuresOfLengths() {
        int all = Markets.MOST_MEASURES;
        for (int many : new int[] {1, 200}) {
            eachMeasure("23: one", all, (x, one) -> x.convert(many, one, 0));
            eachMeasure("23: other", all, (x, other) -> x.convert(many, 0, other));
            eachMeasure("24: one", all, (x, one) -> x.isExact(many, one, 0));
            eachMeasure("24: other", all, (x, other) -> x.isExact(many, 0, other));
            eachMeasure("25: one", all, (x, one) -> x.piecesOf(many, one, 0));
            eachMeasure("25: other", all, (x, other) -> x.piecesOf(many, 0, other));
            eachMeasure("26: measure", all, (x, measure) -> x.pieces(many, measure));
            eachMeasure("27: measure", all, (x, measure) -> x.isTold(many, measure));
            eachMeasure("28: measure", all, (x, measure) -> x.bestMeasure(many, measure));
            eachMeasure("32: measure", all, (x, measure) -> x.getsAt(0, many, measure));
            eachMeasure("33: measure", all, (x, measure) -> x.lossAt(0, many, measure));
        }
    }

    private static void stallsToChange() {
        eachStall("5: stall", (x, stall) -> x.setWear(stall, 1));
        eachStall("6: stall", (x, stall) -> x.seal(stall));
    }

    private static void stallsToAsk() {
        eachStall("29: stall", (x, stall) -> x.driftOf(stall));
        eachStall("30: stall", (x, stall) -> x.wearOf(stall));
        eachStall("31: stall", (x, stall) -> x.isHonest(stall));
        eachStall("32: stall", (x, stall) -> x.getsAt(stall, 1, 0));
        eachStall("33: stall", (x, stall) -> x.lossAt(stall, 1, 0));
        eachStall("36: stall", (x, stall) -> x.driftIn(stall, 1));
        eachStall("38: stall", (x, stall) -> x.daysUntilFined(stall));
        eachStall("39: stall", (x, stall) -> x.bestDayAt(stall));
    }
}
