/** Long runs of calls, right and wrong ones, each answer beside that of the Model. */
final class ModelTest {
    private static final int RUNS = 400;
    private static final int CALLS = 500;
    private static final int KINDS = 40;

    private final OldMeasures market = new OldMeasures();
    private final Model model = new Model();
    private long state;

    private ModelTest(long seed) {
        state = seed;
    }

    public static void main(String[] args) {
        for (int run = 0; run < RUNS; run++) {
            ModelTest test = new ModelTest(run * 7919L + 17);
            for (int call = 0; call < CALLS; call++) {
                test.callOne("run " + run + ", call " + call + ": ");
            }
        }
        Check.end("ModelTest");
    }

    /** The same numbers in every run of this test. */
    private int next(int least, int most) {
        state = state * 6364136223846793005L + 1442695040888963407L;
        return least + (int) Math.floorMod(state >>> 33, (long) (most - least + 1));
    }

    /** Mostly within the bounds, now and then beside them. */
    private int near(int least, int most) {
        if (least > most || next(0, 39) == 0) {
            int[] beside = {least - 1, most + 1, Integer.MIN_VALUE, Integer.MAX_VALUE};
            return beside[next(0, 3)];
        }
        return next(least, most);
    }

    private int measure() {
        return near(0, model.measures - 1);
    }

    private int stall() {
        return near(0, model.drift.length - 1);
    }

    private int howMany() {
        return near(1, 200);
    }

    private int days() {
        return near(1, next(0, 1) == 0 ? 3 : 60);
    }

    private boolean isMeasure(int measure) {
        return measure >= 0 && measure < model.measures;
    }

    private boolean isStall(int stall) {
        return stall >= 0 && stall < model.drift.length;
    }

    private static boolean isIn(int number, int least, int most) {
        return number >= least && number <= most;
    }

    private void callOne(String where) {
        int kind = next(0, KINDS - 1);
        if (kind < 10) {
            change(where, kind);
        } else if (kind < 22) {
            askMeasures(where, kind);
        } else if (kind < 30) {
            askStalls(where, kind);
        } else {
            askAhead(where, kind);
        }
    }

    /** Compares the answer, or what is thrown: "bounds", "illegal", "state", else empty. */
    private void compare(String name, String due, Ask ask, Ask want) {
        String got;
        try {
            got = "" + ask.answer();
        } catch (RuntimeException thrown) {
            got = thrown.getClass().getSimpleName();
        }
        Check.due(name, got, due.isEmpty() ? "" + want.answer() : due);
    }

    interface Ask {
        Object answer();
    }

    private static String first(boolean isInBounds, boolean isLegal, boolean hasRoom) {
        if (!isInBounds) {
            return "IndexOutOfBoundsException";
        }
        if (!isLegal) {
            return "IllegalArgumentException";
        }
        return hasRoom ? "" : "IllegalStateException";
    }

    private void change(String where, int kind) {
        switch (kind) {
            case 0, 1 -> addMeasure(where, measure(), near(1, 9), near(1, 9));
            case 2 -> {
                int measure = measure();
                compare(where + "setStandard " + measure, first(isMeasure(measure), true, true),
                        () -> market.setStandard(measure), () -> {
                            int before = model.standard;
                            model.standard = measure;
                            return before;
                        });
            }
            case 3 -> {
                if (next(0, 9) == 0) {
                    addStall(where, near(-9, 9));
                }
            }
            case 4, 5 -> {
                int stall = stall();
                int wear = near(-9, 9);
                compare(where + "setWear " + stall + " " + wear,
                        first(isStall(stall), isIn(wear, -9, 9), true),
                        () -> market.setWear(stall, wear), () -> {
                            int before = model.wear[stall];
                            model.wear[stall] = wear;
                            return before;
                        });
            }
            case 6 -> {
                int stall = stall();
                compare(where + "seal " + stall, first(isStall(stall), true, true),
                        () -> market.seal(stall), () -> {
                            int before = model.drift[stall];
                            model.drift[stall] = 0;
                            return before;
                        });
            }
            case 7 -> {
                int tolerance = near(0, 100);
                compare(where + "setTolerance " + tolerance, first(true, isIn(tolerance, 0, 100), true),
                        () -> market.setTolerance(tolerance), () -> {
                            int before = model.tolerance;
                            model.tolerance = tolerance;
                            return before;
                        });
            }
            default -> {
                int days = days();
                compare(where + "passDays " + days, first(true, isIn(days, 1, 60), true),
                        () -> market.passDays(days), () -> {
                            int before = model.fines;
                            for (int day = 0; day < days; day++) {
                                model.passDay();
                            }
                            return model.fines - before;
                        });
            }
        }
    }

    private void addMeasure(String where, int base, int many, int parts) {
        compare(where + "addMeasure " + base + " " + many + " " + parts,
                first(isMeasure(base), isIn(many, 1, 9) && isIn(parts, 1, 9), model.measures < 8),
                () -> market.addMeasure(base, many, parts), () -> {
                    model.base[model.measures] = base;
                    model.many[model.measures] = many;
                    model.parts[model.measures] = parts;
                    return model.measures++;
                });
    }

    private void addStall(String where, int wear) {
        compare(where + "addStall " + wear,
                first(true, isIn(wear, -9, 9), model.drift.length < 6),
                () -> market.addStall(wear), () -> {
                    int added = model.drift.length;
                    model.drift = java.util.Arrays.copyOf(model.drift, added + 1);
                    model.wear = java.util.Arrays.copyOf(model.wear, added + 1);
                    model.wear[added] = wear;
                    return added;
                });
    }

    private void askMeasures(String where, int kind) {
        int one = measure();
        int other = measure();
        int many = howMany();
        String name = where + kind + " of " + many + " " + one + " " + other;
        String ofOne = first(isMeasure(one), true, true);
        String ofBoth = first(isMeasure(one) && isMeasure(other), true, true);
        String ofMany = first(isMeasure(one), isIn(many, 1, 200), true);
        String ofAll = first(isMeasure(one) && isMeasure(other), isIn(many, 1, 200), true);
        switch (kind) {
            case 10 -> compare(name, ofOne, () -> market.baseOf(one), () -> one == 0 ? -1 : model.base[one]);
            case 11 -> compare(name, ofOne, () -> market.stepsToEll(one), () -> steps(one));
            case 12 -> compare(name, ofOne, () -> market.lengthTop(one), () -> model.length(one)[0]);
            case 13 -> compare(name, ofOne, () -> market.lengthBottom(one), () -> model.length(one)[1]);
            case 14 -> compare(name, ofBoth, () -> market.isLonger(one, other),
                    () -> Model.compare(model.length(one), model.length(other)) > 0);
            case 15 -> compare(name, ofBoth, () -> market.fewestToMeet(one, other),
                    () -> model.fewestToMeet(one, other));
            case 16 -> compare(name, ofAll, () -> market.convert(many, one, other),
                    () -> Model.whole(model.inOther(many, one, other)));
            case 17 -> compare(name, ofAll, () -> market.isExact(many, one, other),
                    () -> Model.isWhole(model.inOther(many, one, other)));
            case 18 -> compare(name, ofAll, () -> market.piecesOf(many, one, other),
                    () -> model.told(many, one)[other]);
            case 19 -> compare(name, ofMany, () -> market.pieces(many, one), () -> model.pieces(many, one));
            case 20 -> compare(name, ofMany, () -> market.isTold(many, one),
                    () -> model.told(many, one)[8] == 1);
            default -> compare(name, ofMany, () -> market.bestMeasure(many, one),
                    () -> model.bestMeasure(many, one));
        }
    }

    private int steps(int measure) {
        return measure == 0 ? 0 : 1 + steps(model.base[measure]);
    }

    private void askStalls(String where, int kind) {
        int stall = stall();
        int measure = measure();
        int many = howMany();
        String name = where + kind + " of " + stall + " " + many + " " + measure;
        String ofStall = first(isStall(stall), true, true);
        String ofAll = first(isStall(stall) && isMeasure(measure), isIn(many, 1, 200), true);
        switch (kind) {
            case 22 -> compare(name, ofStall, () -> market.driftOf(stall), () -> model.drift[stall]);
            case 23 -> compare(name, ofStall, () -> market.wearOf(stall), () -> model.wear[stall]);
            case 24 -> compare(name, ofStall, () -> market.isHonest(stall), () -> model.isHonest(stall));
            case 25 -> compare(name, ofAll, () -> market.getsAt(stall, many, measure),
                    () -> model.gives(1000 + model.drift[stall], many, measure));
            case 26 -> compare(name, ofAll, () -> market.lossAt(stall, many, measure),
                    () -> model.gives(1000, many, measure)
                            - model.gives(1000 + model.drift[stall], many, measure));
            case 27 -> compare(name, "", market::mostHonest, model::mostHonest);
            case 28 -> compare(name, "", market::mostGenerous, model::mostGenerous);
            default -> compare(name, "", market::meanDrift, model::meanDrift);
        }
    }

    private void askAhead(String where, int kind) {
        int stall = stall();
        int days = days();
        String name = where + kind + " of " + stall + " " + days;
        String ofStall = first(isStall(stall), true, true);
        switch (kind) {
            case 30 -> compare(name, first(isStall(stall), isIn(days, 1, 60), true),
                    () -> market.driftIn(stall, days), () -> model.driftIn(stall, days));
            case 31 -> compare(name, first(true, isIn(days, 1, 60), true),
                    () -> market.finesIn(days), () -> model.finesIn(days));
            case 32 -> compare(name, ofStall, () -> market.daysUntilFined(stall),
                    () -> model.daysUntilFined(stall));
            case 33 -> compare(name, ofStall, () -> market.bestDayAt(stall), () -> model.bestDayAt(stall));
            case 34 -> compare(name, "", market::digest, model::digest);
            case 35 -> compare(name, "", market::longest, model::longest);
            case 36 -> compare(name, "", market::shortest, model::shortest);
            case 37 -> compare(name, "", () -> market.measures() + " " + market.stalls() + " " + market.days(),
                    () -> model.measures + " " + model.drift.length + " " + model.day);
            case 38 -> compare(name, "", () -> market.standard() + " " + market.tolerance(),
                    () -> model.standard + " " + model.tolerance);
            default -> compare(name, "", market::fines, () -> model.fines);
        }
    }
}
