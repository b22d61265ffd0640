import java.util.ArrayList;
import java.util.List;
import java.util.function.Consumer;

/**
 * A method that throws an exception changes nothing: at each age of a market, from a new to a full one,
 * each refused call is made by a market of its own; it then tells and lives on as without it.
 */
final class RefusalTest {
    private static final int MIN = Integer.MIN_VALUE;
    private static final int MAX = Integer.MAX_VALUE;
    private static final int AGAIN = 20;

    private final List<Consumer<OldMeasures>> life = new ArrayList<>();
    private final List<Consumer<OldMeasures>> refusals = new ArrayList<>();

    public static void main(String[] args) {
        RefusalTest test = new RefusalTest();
        test.tellLife();
        for (int age = 0; age <= test.life.size(); age++) {
            test.refusals.clear();
            test.tellRefusals(test.lived(age));
            test.refuseAllAt(age);
        }
        Check.end("RefusalTest");
    }

    private void tellLife() {
        life.add(x -> x.passDays(1));
        life.add(x -> x.addMeasure(0, 9, 1));
        life.add(x -> x.addStall(9));
        life.add(x -> x.passDays(7));
        life.add(x -> x.setStandard(1));
        life.add(x -> x.addMeasure(1, 1, 9));
        life.add(x -> x.addStall(-4));
        life.add(x -> x.setTolerance(0));
        life.add(x -> x.passDays(3));
        life.add(x -> x.addMeasure(2, 5, 7));
        life.add(x -> x.addMeasure(3, 7, 5));
        life.add(x -> x.addStall(3));
        life.add(x -> x.addStall(-9));
        life.add(x -> x.setTolerance(100));
        life.add(x -> x.passDays(25));
        life.add(x -> x.addMeasure(4, 2, 3));
        life.add(x -> x.setWear(0, -2));
        life.add(x -> x.seal(1));
        life.add(x -> x.addMeasure(5, 3, 2));
        life.add(x -> x.addStall(0));
        life.add(x -> x.addStall(7));
        life.add(x -> x.addMeasure(0, 1, 1));
        life.add(x -> x.setStandard(7));
        life.add(x -> x.setTolerance(33));
        life.add(x -> x.passDays(60));
    }

    private OldMeasures lived(int age) {
        OldMeasures x = new OldMeasures();
        for (int step = 0; step < age; step++) {
            life.get(step).accept(x);
        }
        return x;
    }

    private void refuseAllAt(int age) {
        String now = Snapshot.of(lived(age));
        String later = Snapshot.of(lived(life.size()));
        for (int at = 0; at < refusals.size(); at++) {
            Consumer<OldMeasures> refusal = refusals.get(at);
            OldMeasures x = lived(age);
            String name = "refusal " + at + " at the age " + age;
            // Time and again, as a small change may show only when it has grown.
            for (int again = 0; again < AGAIN; again++) {
                boolean isRefused = !Check.thrownBy(() -> refusal.accept(x)).equals("nothing");
                Check.due(name + " throws", isRefused, true);
            }
            Check.due(name + " changes nothing", Snapshot.of(x), now);
            for (int step = age; step < life.size(); step++) {
                life.get(step).accept(x);
            }
            Check.due(name + " changes nothing later", Snapshot.of(x), later);
        }
    }

    private void tellRefusals(OldMeasures x) {
        for (int no : new int[] {-1, x.measures(), MIN, MAX}) {
            noMeasure(no);
        }
        for (int no : new int[] {-1, x.stalls(), MIN, MAX}) {
            noStall(no);
        }
        for (int no : new int[] {0, 201, MIN, MAX}) {
            noMany(no);
        }
        for (int no : new int[] {0, 10, MIN, MAX}) {
            refusals.add(market -> market.addMeasure(0, no, 7));
            refusals.add(market -> market.addMeasure(0, 7, no));
        }
        for (int no : new int[] {-10, 10, MIN, MAX}) {
            refusals.add(market -> market.addStall(no));
            refusals.add(market -> market.setWear(0, no));
        }
        for (int no : new int[] {-1, 101, MIN, MAX}) {
            refusals.add(market -> market.setTolerance(no));
        }
        for (int no : new int[] {0, 61, MIN, MAX}) {
            refusals.add(market -> market.passDays(no));
            refusals.add(market -> market.finesIn(no));
            refusals.add(market -> market.driftIn(0, no));
        }
        if (x.measures() == Markets.MOST_MEASURES) {
            refusals.add(market -> market.addMeasure(0, 9, 1));
            refusals.add(market -> market.addMeasure(7, 1, 9));
        }
        if (x.stalls() == Markets.MOST_STALLS) {
            refusals.add(market -> market.addStall(9));
            refusals.add(market -> market.addStall(-9));
        }
    }

    private void noMeasure(int no) {
        refusals.add(x -> x.addMeasure(no, 5, 7));
        refusals.add(x -> x.setStandard(no));
        refusals.add(x -> x.baseOf(no));
        refusals.add(x -> x.stepsToEll(no));
        refusals.add(x -> x.lengthTop(no));
        refusals.add(x -> x.lengthBottom(no));
        refusals.add(x -> x.isLonger(no, 0));
        refusals.add(x -> x.isLonger(0, no));
        refusals.add(x -> x.fewestToMeet(no, 0));
        refusals.add(x -> x.fewestToMeet(0, no));
        refusals.add(x -> x.convert(1, no, 0));
        refusals.add(x -> x.convert(1, 0, no));
        refusals.add(x -> x.isExact(1, no, 0));
        refusals.add(x -> x.isExact(1, 0, no));
        refusals.add(x -> x.piecesOf(1, no, 0));
        refusals.add(x -> x.piecesOf(1, 0, no));
        refusals.add(x -> x.pieces(1, no));
        refusals.add(x -> x.isTold(1, no));
        refusals.add(x -> x.bestMeasure(1, no));
        refusals.add(x -> x.getsAt(0, 1, no));
        refusals.add(x -> x.lossAt(0, 1, no));
    }

    private void noStall(int no) {
        refusals.add(x -> x.setWear(no, 5));
        refusals.add(x -> x.seal(no));
        refusals.add(x -> x.driftOf(no));
        refusals.add(x -> x.wearOf(no));
        refusals.add(x -> x.isHonest(no));
        refusals.add(x -> x.getsAt(no, 1, 0));
        refusals.add(x -> x.lossAt(no, 1, 0));
        refusals.add(x -> x.driftIn(no, 60));
        refusals.add(x -> x.daysUntilFined(no));
        refusals.add(x -> x.bestDayAt(no));
    }

    private void noMany(int no) {
        refusals.add(x -> x.convert(no, 0, 0));
        refusals.add(x -> x.isExact(no, 0, 0));
        refusals.add(x -> x.piecesOf(no, 0, 0));
        refusals.add(x -> x.pieces(no, 0));
        refusals.add(x -> x.isTold(no, 0));
        refusals.add(x -> x.bestMeasure(no, 0));
        refusals.add(x -> x.getsAt(0, no, 0));
        refusals.add(x -> x.lossAt(0, no, 0));
    }
}
