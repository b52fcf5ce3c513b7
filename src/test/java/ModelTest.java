/** Runs of up to 512 calls on the codex and on the model of it: both answer the same. */
public final class ModelTest {
    private static final int RUNS = 300;
    private static final int CALLS = 512;
    private static final int MOST_OF_A_STEP = 10;
    private static final int KINDS = 41;

    // A fixed row of numbers, so that each run of the test is the same.
    private static long seed = 20260101L;

    public static void main(String[] args) {
        for (int run = 0; run < RUNS; run++) {
            GooseCodex codex = new GooseCodex();
            Model model = new Model();
            // Calm runs set up little and by right numbers alone, so that visitors get far.
            boolean wild = run % 3 == 0;
            int used = wild ? 0 : setUp(codex, model);
            while (used + MOST_OF_A_STEP <= CALLS) {
                used += step(run + "/" + used, codex, model, wild);
            }
        }
        Due.end();
    }

    private static int next(int bound) {
        seed = seed * 6364136223846793005L + 1442695040888963407L;
        return (int) ((seed >>> 33) % bound);
    }

    /** From least to most, and in wild runs at times a little or far beyond. */
    private static int number(int least, int most, boolean wild) {
        int kind = wild ? next(12) : 2;
        if (kind == 0) {
            return next(2) == 0 ? Integer.MIN_VALUE : Integer.MAX_VALUE;
        }
        if (kind == 1) {
            return next(2) == 0 ? least - 1 : most + 1;
        }
        return least + next(most - least + 1);
    }

    /** How many calls it took. */
    private static int setUp(GooseCodex codex, Model model) {
        int gates = 1 + next(6);
        int geese = next(9);
        for (int i = 0; i < gates; i++) {
            int rank = next(10);
            Due.due("addGate", codex.addGate(rank), model.addGate(rank));
        }
        for (int i = 0; i < geese; i++) {
            int gate = next(gates);
            int temper = 1 + next(9);
            Due.due("addGoose", codex.addGoose(gate, temper), model.addGoose(gate, temper));
        }
        return gates + geese;
    }

    /** How many calls it took at the most. */
    private static int step(String at, GooseCodex x, Model m, boolean wild) {
        int kind = next(KINDS);
        int gate = number(0, Math.max(0, m.gates.size() - 1), wild);
        int goose = number(0, Math.max(0, m.geese.size() - 1), wild);
        int visitor = number(0, Math.max(0, m.visitors.size() - 1), wild);
        int rank = number(0, 9, wild);
        int nerve = number(0, 20, wild);
        switch (kind) {
            case 1 -> same(at + " addGate", () -> x.addGate(rank), () -> m.addGate(rank));
            case 2, 3 -> {
                int temper = number(1, 9, wild);
                same(at + " addGoose", () -> x.addGoose(gate, temper),
                        () -> m.addGoose(gate, temper));
            }
            case 4 -> {
                int corns = next(3) == 0 ? 0 : number(0, 20, wild);
                if (next(4) == 0) {
                    same(at + " arrive", () -> x.arrive(rank, nerve, corns),
                            () -> m.arrive(rank, nerve, corns));
                }
            }
            case 5 -> same(at + " setRank", () -> x.setRank(gate, rank),
                    () -> m.setRank(gate, rank));
            case 6 -> same(at + " lead", () -> x.lead(goose, gate), () -> m.lead(goose, gate));
            case 7 -> {
                int corns = number(1, 20, wild);
                same(at + " giveCorns", () -> x.giveCorns(visitor, corns),
                        () -> m.giveCorns(visitor, corns));
            }
            case 8 -> same(at + " bribe", () -> x.bribe(visitor, goose),
                    () -> m.bribe(visitor, goose));
            case 9, 10 -> {
                int beats = next(6) == 0 ? number(1, 60, wild) : 1;
                same(at + " passBeats", () -> x.passBeats(beats), () -> m.passBeats(beats));
            }
            case 11 -> counts(at, x, m);
            default -> ask(at, x, m, kind, new int[] {gate, goose, visitor, rank, nerve,
                number(1, 60, wild)});
        }
        Due.due(at + " digest", x.digest(), m.digest());
        return kind == 11 ? MOST_OF_A_STEP : 2;
    }

    private static void counts(String at, GooseCodex x, Model m) {
        Due.due(at + " beats", x.beats(), m.beats);
        Due.due(at + " gates", x.gates(), m.gates.size());
        Due.due(at + " geese", x.geese(), m.geese.size());
        Due.due(at + " visitors", x.visitors(), m.visitors.size());
        Due.due(at + " inFarm", x.inFarm(), m.inFarm());
        Due.due(at + " bribes", x.bribes(), m.bribes);
        Due.due(at + " retreats", x.retreats(), m.retreats);
        Due.due(at + " loudestGate", x.loudestGate(), m.loudestGate());
        Due.due(at + " meanTemper", x.meanTemper(), m.meanTemper());
    }

    private static void ask(String at, GooseCodex x, Model m, int kind, int[] n) {
        int g = n[0];
        int o = n[1];
        int v = n[2];
        switch (kind) {
            case 17 -> same(at + " rankOf", () -> x.rankOf(g), () -> m.rankOf(g));
            case 18 -> same(at + " awakeAt", () -> x.awakeAt(g), () -> m.awakeAt(g));
            case 19 -> same(at + " hissOf", () -> x.hissOf(g, n[3]), () -> m.hissOf(g, n[3]));
            case 21 -> same(at + " gateOf", () -> x.gateOf(o), () -> m.goose(o).gate);
            case 22 -> same(at + " temperOf", () -> x.temperOf(o), () -> m.goose(o).temper);
            case 23 -> same(at + " calmFor", () -> x.calmFor(o), () -> m.goose(o).calm);
            case 24 -> same(at + " eatenBy", () -> x.eatenBy(o), () -> m.goose(o).eaten);
            case 25 -> same(at + " passedBy", () -> x.passedBy(v), () -> m.visitor(v).passed);
            case 26 -> same(at + " isInFarm", () -> x.isInFarm(v), () -> m.in(m.visitor(v)));
            case 27 -> same(at + " cornsOf", () -> x.cornsOf(v), () -> m.visitor(v).corns);
            case 28 -> same(at + " nerveOf", () -> x.nerveOf(v), () -> m.visitor(v).nerve);
            case 29 -> same(at + " retreatOf", () -> x.retreatOf(v), () -> m.visitor(v).retreat);
            case 30 -> same(at + " hissAt", () -> x.hissAt(v), () -> m.hissAt(v));
            case 31 -> same(at + " gradeFor", () -> x.gradeFor(v),
                    () -> Model.grade(m.hissAt(v)));
            case 32 -> same(at + " dares", () -> x.dares(v), () -> m.dares(v));
            case 33 -> same(at + " beatsUntilIn", () -> x.beatsUntilIn(v),
                    () -> m.beatsUntilIn(v));
            case 34 -> same(at + " inFarmAfter", () -> x.inFarmAfter(n[5]),
                    () -> m.inFarmAfter(n[5]));
            case 35 -> same(at + " cornsWanted", () -> x.cornsWanted(v), () -> m.cornsWanted(v));
            case 36 -> same(at + " bestToBribe", () -> x.bestToBribe(v), () -> m.bestToBribe(v));
            case 37 -> same(at + " bribesWanted", () -> x.bribesWanted(v),
                    () -> m.bribesWanted(v));
            case 38 -> same(at + " rankWanted", () -> x.rankWanted(v), () -> m.rankWanted(v));
            case 39 -> same(at + " firstBar", () -> x.firstBar(n[3], n[4]),
                    () -> m.firstBar(n[3], n[4]));
            default -> Due.due(at + " meanTemper", x.meanTemper(), m.meanTemper());
        }
    }

    private static void same(String what, Due.Call got, Due.Call want) {
        Due.due(what, Due.answer(got), Due.answer(want));
    }
}
