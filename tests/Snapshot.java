/** All that a market tells of itself, as one text. */
final class Snapshot {
    private Snapshot() {
    }

    static String of(OldMeasures x) {
        StringBuilder text = new StringBuilder();
        text.append(x.measures()).append(' ').append(x.stalls()).append(' ').append(x.days()).append(' ');
        text.append(x.standard()).append(' ').append(x.tolerance()).append(' ').append(x.fines());
        for (int measure = 0; measure < x.measures(); measure++) {
            text.append(" | ").append(x.baseOf(measure)).append(' ').append(x.stepsToEll(measure));
            text.append(' ').append(x.lengthTop(measure)).append('/').append(x.lengthBottom(measure));
        }
        for (int stall = 0; stall < x.stalls(); stall++) {
            text.append(" | ").append(x.wearOf(stall)).append(' ').append(x.driftOf(stall));
        }
        return text.append(" | ").append(x.digest()).toString();
    }
}
