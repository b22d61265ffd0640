/** What the tests share: it compares answers, tells the wrong ones, and counts both. */
final class Check {
    interface Call {
        void run();
    }

    private static int passed = 0;
    private static int failed = 0;

    private Check() {
    }

    static void due(String call, long got, long want) {
        count(got == want, call, "" + got, "" + want);
    }

    static void due(String call, boolean got, boolean want) {
        count(got == want, call, "" + got, "" + want);
    }

    static void due(String call, double got, double want) {
        count(Double.compare(got, want) == 0, call, "" + got, "" + want);
    }

    static void due(String call, String got, String want) {
        count(got.equals(want), call, got, want);
    }

    /** The call answers. */
    static void taken(String name, Call call) {
        due(name, thrownBy(call), "nothing");
    }

    /** The call throws just this class, none below it, and the market answers as before. */
    static void refused(String name, Class<? extends RuntimeException> want, OldMeasures market, Call call) {
        String before = Snapshot.of(market);
        due(name, thrownBy(call), want.getSimpleName());
        due(name + " changes nothing", Snapshot.of(market), before);
    }

    static void outOfBounds(String name, OldMeasures market, Call call) {
        refused(name, IndexOutOfBoundsException.class, market, call);
    }

    static void illegal(String name, OldMeasures market, Call call) {
        refused(name, IllegalArgumentException.class, market, call);
    }

    static void full(String name, OldMeasures market, Call call) {
        refused(name, IllegalStateException.class, market, call);
    }

    /** The call answers, and the market answers all else as before. */
    static void unchangedBy(String name, OldMeasures market, Call call) {
        String before = Snapshot.of(market);
        taken(name, call);
        due(name + " changes nothing", Snapshot.of(market), before);
    }

    static String thrownBy(Call call) {
        try {
            call.run();
            return "nothing";
        } catch (RuntimeException thrown) {
            return thrown.getClass().getSimpleName();
        }
    }

    static void end(String test) {
        System.out.println(test + ": " + passed + " answers as due, " + failed + " not");
        if (failed != 0) {
            System.exit(1);
        }
    }

    private static void count(boolean isDue, String call, String got, String want) {
        if (isDue) {
            passed++;
        } else {
            failed++;
            System.out.println(call + " answered " + got + ", due is " + want);
        }
    }
}
