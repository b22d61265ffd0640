import java.lang.reflect.Field;

/**
 * The drift held at -300 and 300. No run of calls comes farther than 208 (the inspector comes round
 * too soon), so this test alone puts a drift into the object by hand.
 */
final class HeldDriftTest {
    public static void main(String[] args) throws ReflectiveOperationException {
        held(295, 9, 300);
        held(295, 5, 300);
        held(295, 4, 299);
        held(300, 1, 300);
        held(300, -1, 299);
        held(-295, -9, -300);
        held(-295, -5, -300);
        held(-295, -4, -299);
        held(-300, -1, -300);
        held(-300, 1, -299);
        finedAtTheBound(9, 300);
        finedAtTheBound(-9, -300);
        askedAtTheBound();
        Check.end("HeldDriftTest");
    }

    /** The second of two stalls is not visited on day 0. */
    private static OldMeasures marketAt(int drift, int wear) throws ReflectiveOperationException {
        OldMeasures x = new OldMeasures();
        x.addStall(0);
        x.addStall(wear);
        put(x, 1, drift);
        return x;
    }

    private static void put(OldMeasures x, int stall, int drift) throws ReflectiveOperationException {
        Field stalls = OldMeasures.class.getDeclaredField("stalls");
        stalls.setAccessible(true);
        Field drifts = stalls.getType().getDeclaredField("drifts");
        drifts.setAccessible(true);
        ((int[]) drifts.get(stalls.get(x)))[stall] = drift;
    }

    private static void held(int drift, int wear, int due) throws ReflectiveOperationException {
        OldMeasures x = marketAt(drift, wear);
        Check.due("36: " + drift + " and " + wear, x.driftIn(1, 1), due);
        Check.due("8: no fine", x.passDays(1), 0);
        Check.due("8: " + drift + " and " + wear, x.driftOf(1), due);
    }

    private static void finedAtTheBound(int wear, int drift) throws ReflectiveOperationException {
        OldMeasures x = marketAt(drift, wear);
        Check.due("37: the fine at " + drift, x.finesIn(2), 300);
        Check.due("8: the fine at " + drift, x.passDays(2), 300);
        Check.due("8: the drift behind it", x.driftOf(1), 0);
    }

    private static void askedAtTheBound() throws ReflectiveOperationException {
        OldMeasures high = marketAt(300, 9);
        Check.due("32: at 300", high.getsAt(1, 1, 0), 1300);
        Check.due("33: at 300", high.lossAt(1, 1, 0), -300);
        Check.due("34: at 300", high.mostHonest(), 0);
        Check.due("35: at 300", high.mostGenerous(), 1);
        Check.due("39: at 300", high.bestDayAt(1), 0);
        OldMeasures low = marketAt(-300, -9);
        Check.due("32: at -300", low.getsAt(1, 1, 0), 700);
        Check.due("33: at -300", low.lossAt(1, 1, 0), 300);
        Check.due("35: at -300", low.mostGenerous(), 0);
        Check.due("40: at -300", low.meanDrift(), -150.0);
        put(high, 0, 300);
        Check.due("34: all at 300", high.mostHonest(), 0);
        put(low, 0, -300);
        Check.due("34: all at -300", low.mostHonest(), 0);
        Check.due("35: all at -300", low.mostGenerous(), 0);
    }
}
