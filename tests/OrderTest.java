import java.util.function.Consumer;
import java.util.function.Supplier;

/** Of several exceptions that apply, the one that is named first is thrown, and nothing changes. */
final class OrderTest {
    private static final int[] NO_RATIO = {0, 10};
    private static final int[] NO_WEAR = {-10, 10};
    private static final int[] NO_MANY = {0, 201};
    private static final int[] NO_DAYS = {0, 61};

    private final Supplier<OldMeasures> made;
    private final String where;

    private OrderTest(Supplier<OldMeasures> made, String where) {
        this.made = made;
        this.where = where;
    }

    public static void main(String[] args) {
        new OrderTest(OldMeasures::new, " in a new market").bounds();
        new OrderTest(() -> Markets.of(3, 2), " in a market").bounds();
        OrderTest full = new OrderTest(Markets::full, " in a full market");
        full.bounds();
        full.illegalAheadOfFull();
        full.noMeasureAheadOfManyAtStalls();
        Check.end("OrderTest");
    }

    /** Each call has a market of its own. */
    private void outOfBounds(String name, Consumer<OldMeasures> call) {
        OldMeasures x = made.get();
        Check.outOfBounds(name + where, x, () -> call.accept(x));
    }

    private void illegal(String name, Consumer<OldMeasures> call) {
        OldMeasures x = made.get();
        Check.illegal(name + where, x, () -> call.accept(x));
    }

    private void full(String name, Consumer<OldMeasures> call) {
        OldMeasures x = made.get();
        Check.full(name + where, x, () -> call.accept(x));
    }

    private void bounds() {
        for (int measure : new int[] {-1, made.get().measures()}) {
            noBaseAheadOfTheRest(measure);
            for (int many : NO_MANY) {
                noMeasureAheadOfMany(measure, many);
            }
        }
        for (int stall : new int[] {-1, made.get().stalls()}) {
            noStallAheadOfTheRest(stall);
        }
    }

    /** In a full market there are 8 measures besides. */
    private void noBaseAheadOfTheRest(int base) {
        for (int no : NO_RATIO) {
            outOfBounds("2: no base " + base + ", many " + no, x -> x.addMeasure(base, no, 1));
            outOfBounds("2: no base " + base + ", parts " + no, x -> x.addMeasure(base, 1, no));
            outOfBounds("2: no base " + base + ", both " + no, x -> x.addMeasure(base, no, no));
        }
        outOfBounds("2: no base " + base, x -> x.addMeasure(base, 9, 9));
    }

    private void noMeasureAheadOfMany(int measure, int many) {
        String no = "no measure " + measure + ", many " + many;
        outOfBounds("23: one is " + no, x -> x.convert(many, measure, 0));
        outOfBounds("23: other is " + no, x -> x.convert(many, 0, measure));
        outOfBounds("24: one is " + no, x -> x.isExact(many, measure, 0));
        outOfBounds("24: other is " + no, x -> x.isExact(many, 0, measure));
        outOfBounds("25: one is " + no, x -> x.piecesOf(many, measure, 0));
        outOfBounds("25: other is " + no, x -> x.piecesOf(many, 0, measure));
        outOfBounds("26: " + no, x -> x.pieces(many, measure));
        outOfBounds("27: " + no, x -> x.isTold(many, measure));
        outOfBounds("28: " + no, x -> x.bestMeasure(many, measure));
    }

    private void noStallAheadOfTheRest(int stall) {
        String no = "no stall " + stall;
        for (int wear : NO_WEAR) {
            outOfBounds("5: " + no + ", wear " + wear, x -> x.setWear(stall, wear));
        }
        for (int days : NO_DAYS) {
            outOfBounds("36: " + no + ", days " + days, x -> x.driftIn(stall, days));
        }
        for (int many : NO_MANY) {
            outOfBounds("32: " + no + ", many " + many, x -> x.getsAt(stall, many, 0));
            outOfBounds("33: " + no + ", many " + many, x -> x.lossAt(stall, many, 0));
            outOfBounds("32: " + no + ", no measure, many " + many, x -> x.getsAt(stall, many, -1));
            outOfBounds("33: " + no + ", no measure, many " + many, x -> x.lossAt(stall, many, -1));
        }
    }

    private void noMeasureAheadOfManyAtStalls() {
        for (int measure : new int[] {-1, 8}) {
            for (int many : NO_MANY) {
                String no = "no measure " + measure + ", many " + many;
                outOfBounds("32: " + no, x -> x.getsAt(5, many, measure));
                outOfBounds("33: " + no, x -> x.lossAt(5, many, measure));
            }
        }
    }

    private void illegalAheadOfFull() {
        for (int no : NO_RATIO) {
            illegal("2: many " + no, x -> x.addMeasure(0, no, 1));
            illegal("2: parts " + no, x -> x.addMeasure(7, 1, no));
        }
        full("2: all else is right", x -> x.addMeasure(7, 9, 9));
        for (int no : NO_WEAR) {
            illegal("4: wear " + no, x -> x.addStall(no));
        }
        full("4: all else is right, -9", x -> x.addStall(-9));
        full("4: all else is right, 9", x -> x.addStall(9));
    }
}
