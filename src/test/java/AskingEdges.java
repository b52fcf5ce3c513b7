import java.util.function.ToIntBiFunction;

/** The boundary cases that promises 10 to 32 name, a sentence a test. */
final class AskingEdges {
    private static final String NO_GATE =
            "Throws `IndexOutOfBoundsException` if there is no such gate";
    private static final String NO_GOOSE =
            "Throws `IndexOutOfBoundsException` if there is no such goose";
    private static final String NO_VISITOR =
            "Throws `IndexOutOfBoundsException` if there is no such visitor";

    private AskingEdges() {
    }

    static void run() {
        inFarm();
        noSuchGate();
        hissOfRank();
        loudestAtTheRankZero();
        loudestOfSeveral();
        loudestWithoutGates();
        noSuchGoose();
        calmForZero();
        noSuchVisitor();
        isInFarm();
        retreatOfZero();
        daresAsItIsNow();
        daresInTheFarm();
    }

    private static void inFarm() {
        Sentence.ofPromise(14, "Returns how many visitors are in the farm.");
        GooseCodex x = new GooseCodex();
        Due.due("inFarm without gates", x.inFarm(), 0);
        x.addGate(0);
        Due.due("inFarm without visitors", x.inFarm(), 0);
        for (int visitor = 0; visitor < 8; visitor++) {
            x.arrive(0, 0, 0);
            Due.due("inFarm ahead of the beat", x.inFarm(), visitor);
            x.passBeats(1);
            Due.due("inFarm behind the beat", x.inFarm(), visitor + 1);
        }
    }

    private static void noSuchGate() {
        noSuchGate(17, "rankOf", 5, (x, gate) -> x.rankOf(gate));
        noSuchGate(18, "awakeAt", 1, (x, gate) -> x.awakeAt(gate));
        noSuchGate(19, "hissOf", 14, (x, gate) -> x.hissOf(gate, 0));
    }

    /** With no gate, and with each number of gates up to the most. */
    private static void noSuchGate(int promise, String name, int ofTheLast,
            ToIntBiFunction<GooseCodex, Integer> call) {
        Sentence.ofPromise(promise, NO_GATE);
        for (int gates = 0; gates <= 6; gates++) {
            GooseCodex x = new GooseCodex();
            for (int gate = 0; gate < gates; gate++) {
                x.addGate(gate == gates - 1 ? 5 : 0);
            }
            if (gates > 0) {
                x.addGoose(gates - 1, 9);
                Due.due(name + " the last", call.applyAsInt(x, gates - 1), ofTheLast);
            }
            Due.noSuch(name, x, gates, gate -> call.applyAsInt(x, gate));
        }
    }

    private static void hissOfRank() {
        Sentence.ofPromise(19, "Throws `IllegalArgumentException` if rank is not 0 to 9");
        GooseCodex x = Made.guarded(9, 1);
        Due.outside("hissOf", x, 0, 9, rank -> x.hissOf(0, rank));
        Due.due("hissOf(0, 0)", x.hissOf(0, 0), 10);
        Due.due("hissOf(0, 9)", x.hissOf(0, 9), 1);
    }

    private static void loudestAtTheRankZero() {
        Sentence.ofPromise(20, "Returns the gate whose hiss at the rank 0 is the greatest,");
        GooseCodex x = Made.withGates(0, 1, 0);
        x.addGoose(0, 5);
        x.addGoose(1, 5);
        x.addGoose(2, 5);
        Due.due("louder by a rank of 1", x.loudestGate(), 1);
        x.setRank(2, 2);
        Due.due("louder by a rank of 2, the last", x.loudestGate(), 2);
        x.setRank(0, 3);
        Due.due("louder by a rank of 3, the first", x.loudestGate(), 0);
        GooseCodex y = Made.withGates(0, 0);
        y.addGoose(0, 3);
        y.addGoose(0, 3);
        y.addGoose(1, 7);
        Due.due("one louder than two, at the rank 0 alone", y.loudestGate(), 1);
    }

    private static void loudestOfSeveral() {
        Sentence.ofPromise(20, "of several the smallest number;");
        GooseCodex x = Made.withGates(0, 0, 0, 0, 0, 8);
        Due.due("all alike, without geese", x.loudestGate(), 0);
        for (int gate = 5; gate >= 0; gate--) {
            x.addGoose(gate, gate == 5 ? 1 : 9);
            Due.due("loudest from gate " + gate + " on", x.loudestGate(), gate);
        }
    }

    private static void loudestWithoutGates() {
        Sentence.ofPromise(20, "-1 without gates.");
        GooseCodex x = new GooseCodex();
        Due.due("loudestGate without gates", x.loudestGate(), -1);
        x.addGate(0);
        Due.due("loudestGate with a gate", x.loudestGate(), 0);
    }

    private static void noSuchGoose() {
        noSuchGoose(21, "gateOf", 1, (x, goose) -> x.gateOf(goose));
        noSuchGoose(22, "temperOf", 4, (x, goose) -> x.temperOf(goose));
        noSuchGoose(23, "calmFor", 3, (x, goose) -> x.calmFor(goose));
        noSuchGoose(24, "eatenBy", 1, (x, goose) -> x.eatenBy(goose));
    }

    /** With no goose, and with each number of geese up to the most; the last one is bribed. */
    private static void noSuchGoose(int promise, String name, int ofTheLast,
            ToIntBiFunction<GooseCodex, Integer> call) {
        Sentence.ofPromise(promise, NO_GOOSE);
        for (int geese = 0; geese <= 8; geese++) {
            GooseCodex x = Made.guarded(0, Made.alike(geese, 5));
            x.addGate(0);
            x.arrive(0, 0, 1);
            if (geese > 0) {
                x.bribe(0, geese - 1);
                x.lead(geese - 1, 1);
                Due.due(name + " the last", call.applyAsInt(x, geese - 1), ofTheLast);
            }
            Due.noSuch(name, x, geese, goose -> call.applyAsInt(x, goose));
        }
    }

    private static void calmForZero() {
        Sentence.ofPromise(23, "Returns for how many beats it is calm; 0 if it is awake.");
        GooseCodex x = Made.guarded(0, 5);
        Due.due("calmFor at first", x.calmFor(0), 0);
        x.arrive(0, 20, 1);
        x.bribe(0, 0);
        for (int calm = 3; calm >= 0; calm--) {
            Due.due("calmFor", x.calmFor(0), calm);
            Due.due("awakeAt, calm for " + calm, x.awakeAt(0), calm == 0 ? 1 : 0);
            x.passBeats(1);
        }
        Due.due("calmFor, awake already", x.calmFor(0), 0);
    }

    private static void noSuchVisitor() {
        noSuchVisitor(25, "passedBy", 1, (x, visitor) -> x.passedBy(visitor));
        noSuchVisitor(26, "isInFarm", 0, (x, visitor) -> x.isInFarm(visitor) ? 1 : 0);
        noSuchVisitor(27, "cornsOf", 7, (x, visitor) -> x.cornsOf(visitor));
        noSuchVisitor(28, "nerveOf", 6, (x, visitor) -> x.nerveOf(visitor));
        noSuchVisitor(29, "retreatOf", 0, (x, visitor) -> x.retreatOf(visitor));
        noSuchVisitor(30, "hissAt", 5, (x, visitor) -> x.hissAt(visitor));
        noSuchVisitor(31, "gradeFor", 1, (x, visitor) -> x.gradeFor(visitor));
        noSuchVisitor(32, "dares", 1, (x, visitor) -> x.dares(visitor) ? 1 : 0);
    }

    /** With nobody, and with each number of visitors up to the most, at the second of two gates. */
    private static void noSuchVisitor(int promise, String name, int ofTheLast,
            ToIntBiFunction<GooseCodex, Integer> call) {
        Sentence.ofPromise(promise, NO_VISITOR);
        for (int visitors = 0; visitors <= 8; visitors++) {
            GooseCodex x = Made.withGates(0, 0);
            x.addGoose(1, 5);
            for (int visitor = 0; visitor < visitors; visitor++) {
                x.arrive(0, 6, 7);
            }
            x.passBeats(1);
            if (visitors > 0) {
                Due.due(name + " the last", call.applyAsInt(x, visitors - 1), ofTheLast);
            }
            Due.noSuch(name, x, visitors, visitor -> call.applyAsInt(x, visitor));
        }
    }

    private static void isInFarm() {
        Sentence.ofPromise(26, "Returns whether this one is in the farm.");
        for (int gates = 1; gates <= 6; gates++) {
            GooseCodex x = Made.withGates(new int[gates]);
            x.arrive(0, 0, 0);
            for (int gate = 0; gate < gates; gate++) {
                Due.due("isInFarm at gate " + gate, x.isInFarm(0), false);
                x.passBeats(1);
            }
            Due.due("isInFarm behind gate " + (gates - 1), x.isInFarm(0), true);
        }
    }

    private static void retreatOfZero() {
        Sentence.ofPromise(29, "Returns for how many beats this one retreats; 0 if not.");
        GooseCodex x = Made.hissing(21);
        x.arrive(0, 0, 0);
        Due.due("retreatOf at first", x.retreatOf(0), 0);
        for (int retreat = 4; retreat >= 0; retreat--) {
            x.passBeats(1);
            Due.due("retreatOf", x.retreatOf(0), retreat);
        }
        x.arrive(0, 0, 1);
        x.passBeats(1);
        Due.due("retreatOf who bribes", x.retreatOf(1), 0);
    }

    private static void daresAsItIsNow() {
        Sentence.ofPromise(32, "Returns whether this one dares, as it is now;");
        GooseCodex x = Made.hissing(3);
        x.arrive(0, 2, 0);
        Due.due("dares with a nerve less", x.dares(0), false);
        x.passBeats(1);
        Due.due("retreatOf", x.retreatOf(0), 1);
        Due.due("dares with the same nerve, in retreat", x.dares(0), true);
    }

    private static void daresInTheFarm() {
        Sentence.ofPromise(32, "false in the farm.");
        GooseCodex x = Made.withGates(0);
        x.arrive(0, 20, 20);
        Due.due("dares at the last gate", x.dares(0), true);
        x.passBeats(1);
        Due.due("isInFarm", x.isInFarm(0), true);
        Due.due("dares in the farm", x.dares(0), false);
    }
}
