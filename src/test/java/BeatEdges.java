import java.util.function.ToIntFunction;

/** The boundary cases of how a beat goes, and of what a throwing method does. */
final class BeatEdges {
    private static final Class<?> INDEX = IndexOutOfBoundsException.class;
    private static final Class<?> ARGUMENT = IllegalArgumentException.class;
    private static final Class<?> STATE = IllegalStateException.class;

    private BeatEdges() {
    }

    static void run() {
        calmForABeatLess();
        wakesAheadOfTheVisitors();
        byNumbers();
        notInTheFarm();
        nothingElseInRetreat();
        temperAtMostNine();
        ofThoseAwakeHere();
        ofSeveralTheSmallestNumber();
        hasACorn();
        retreatsByTheGrade();
        nerveAtMostTwenty();
        theGateAhead();
        theBeatIsGreater();
        aRefusedCallChangesNothing();
        theFirstNamedException();
    }

    private static void calmForABeatLess() {
        Sentence.of("Terms", "1. Each goose that is calm is so for a beat less.");
        GooseCodex x = Made.guarded(0, 4, 4);
        x.arrive(0, 20, 1);
        x.bribe(0, 0);
        int[] calm = {3, 2, 1, 0, 0};
        for (int beat = 0; beat < calm.length; beat++) {
            Due.due("calmFor the bribed one at " + beat, x.calmFor(0), calm[beat]);
            Due.due("calmFor the awake one at " + beat, x.calmFor(1), 0);
            x.passBeats(1);
        }
    }

    private static void wakesAheadOfTheVisitors() {
        Sentence.of("Terms", "1. Each goose that is calm is so for a beat less.");
        GooseCodex x = Made.guarded(0, 4);
        x.arrive(0, 0, 1);
        x.bribe(0, 0);
        x.passBeats(2);
        x.arrive(0, 0, 0);
        Due.due("dares, while it is calm for 1", x.dares(1), true);
        Due.due("come in, when it is awake", x.passBeats(1), 0);
        Due.due("retreatOf", x.retreatOf(1), 1);
    }

    private static void byNumbers() {
        Sentence.of("Terms", "2. Each visitor, by numbers, who is not in the farm:");
        GooseCodex x = Made.guarded(0, 4);
        x.arrive(0, 4, 0);
        x.arrive(0, 4, 0);
        Due.due("come in", x.passBeats(1), 1);
        Due.due("the first is in", x.isInFarm(0), true);
        Due.due("the second, by a temper more, is not", x.isInFarm(1), false);
        GooseCodex y = Made.guarded(0, 4);
        y.arrive(0, 0, 0);
        y.arrive(0, 0, 1);
        y.arrive(0, 0, 0);
        Due.due("come in", y.passBeats(1), 1);
        Due.due("the one ahead of the bribe retreats", y.retreatOf(0), 1);
        Due.due("the one behind the bribe is in", y.isInFarm(2), true);
    }

    private static void notInTheFarm() {
        Sentence.of("Terms", "2. Each visitor, by numbers, who is not in the farm:");
        GooseCodex x = Made.withGates(0);
        x.arrive(0, 0, 5);
        x.arrive(0, 0, 0);
        Due.due("come in", x.passBeats(1), 2);
        x.addGoose(0, 9);
        x.addGoose(0, 8);
        Due.due("come in again", x.passBeats(60), 0);
        Due.due("passedBy", x.passedBy(0), 1);
        Due.due("cornsOf", x.cornsOf(0), 5);
        Due.due("nerveOf", x.nerveOf(1), 0);
        Due.due("retreatOf", x.retreatOf(1), 0);
        Due.due("temperOf", x.temperOf(1), 8);
        Due.due("bribes", x.bribes(), 0);
        Due.due("retreats", x.retreats(), 0);
    }

    private static void nothingElseInRetreat() {
        Sentence.of("Terms", "who retreats does so for a beat less, and nothing else.");
        GooseCodex x = Made.hissing(6);
        x.arrive(0, 4, 0);
        x.passBeats(1);
        x.giveCorns(0, 2);
        for (int retreat = 2; retreat >= 0; retreat--) {
            Due.due("retreatOf", x.retreatOf(0), retreat);
            Due.due("cornsOf", x.cornsOf(0), 2);
            Due.due("nerveOf", x.nerveOf(0), 5);
            Due.due("passedBy", x.passedBy(0), 0);
            Due.due("retreats", x.retreats(), 1);
            if (retreat > 0) {
                x.passBeats(1);
            }
        }
        x.passBeats(1);
        Due.due("cornsOf, behind the retreat", x.cornsOf(0), 1);
        GooseCodex y = Made.hissing(3);
        y.arrive(0, 2, 0);
        y.passBeats(1);
        Due.due("dares in the last beat of it", y.dares(0), true);
        Due.due("come in in the last beat of it", y.passBeats(1), 0);
    }

    private static void temperAtMostNine() {
        Sentence.of("Terms", "Each other one who dares goes through the gate; then the temper of"
                + " each goose that is awake there is 1 more, at most 9.");
        for (int temper = 1; temper <= 9; temper++) {
            GooseCodex x = Made.withGates(0, 0);
            x.addGoose(0, temper);
            x.addGoose(0, temper);
            x.addGoose(1, temper);
            x.arrive(0, 20, 1);
            x.bribe(0, 1);
            x.passBeats(1);
            Due.due("passedBy", x.passedBy(0), 1);
            Due.due("temperOf the one awake there", x.temperOf(0), Math.min(9, temper + 1));
            Due.due("temperOf the one calm there", x.temperOf(1), Math.max(1, temper - 1));
            Due.due("temperOf the one at the next gate", x.temperOf(2), temper);
        }
    }

    private static final String BRIBES = "Who does not dare, and has a corn, bribes the goose, of"
            + " those awake at this gate, with the greatest temper, of several that with the"
            + " smallest number.";

    private static void ofThoseAwakeHere() {
        Sentence.of("Terms", BRIBES);
        GooseCodex x = Made.withGates(0, 0);
        x.addGoose(1, 9);
        x.addGoose(0, 9);
        x.addGoose(0, 2);
        x.addGoose(0, 3);
        x.arrive(0, 0, 2);
        x.bribe(0, 1);
        x.passBeats(1);
        Due.due("calmFor the one at the next gate", x.calmFor(0), 0);
        Due.due("calmFor the one calm already", x.calmFor(1), 2);
        Due.due("calmFor the one of less temper", x.calmFor(2), 0);
        Due.due("calmFor the greatest temper", x.calmFor(3), 3);
    }

    private static void ofSeveralTheSmallestNumber() {
        Sentence.of("Terms", BRIBES);
        GooseCodex x = Made.guarded(0, 1, 6, 6, 6);
        x.arrive(0, 0, 1);
        x.passBeats(1);
        int[] calm = {0, 3, 0, 0};
        for (int goose = 0; goose < 4; goose++) {
            Due.due("calmFor " + goose, x.calmFor(goose), calm[goose]);
        }
        GooseCodex y = Made.guarded(9, 9, 9, 9, 9, 9, 9, 9, 9);
        y.arrive(0, 20, 1);
        y.passBeats(1);
        Due.due("calmFor the first of eight", y.calmFor(0), 3);
    }

    private static void hasACorn() {
        Sentence.of("Terms", BRIBES);
        for (int corns = 0; corns <= 2; corns++) {
            GooseCodex x = Made.hissing(8);
            x.arrive(0, 7, corns);
            x.passBeats(1);
            Due.due("cornsOf, from " + corns, x.cornsOf(0), Math.max(0, corns - 1));
            Due.due("bribes, from " + corns, x.bribes(), corns == 0 ? 0 : 1);
            Due.due("retreats, from " + corns, x.retreats(), corns == 0 ? 1 : 0);
            Due.due("nerveOf, from " + corns, x.nerveOf(0), corns == 0 ? 8 : 7);
        }
        GooseCodex y = Made.hissing(8);
        y.arrive(0, 8, 1);
        y.passBeats(1);
        Due.due("cornsOf, who dares keeps it", y.cornsOf(0), 1);
    }

    private static void retreatsByTheGrade() {
        Sentence.of("Terms",
                "Who has none retreats for as many beats as the grade of the hiss is;");
        int[] hisses = {1, 5, 6, 10, 11, 20, 21, 72};
        int[] grades = {1, 1, 2, 2, 3, 3, 4, 4};
        for (int i = 0; i < hisses.length; i++) {
            GooseCodex x = Made.hissing(hisses[i]);
            x.arrive(0, 0, 0);
            x.passBeats(1);
            Due.due("retreatOf from " + hisses[i], x.retreatOf(0), grades[i]);
            Due.due("retreats from " + hisses[i], x.retreats(), 1);
        }
    }

    private static void nerveAtMostTwenty() {
        Sentence.of("Terms", "the nerve is 1 more then, at most 20,");
        for (int nerve = 0; nerve <= 20; nerve++) {
            GooseCodex x = Made.hissing(21);
            x.arrive(0, nerve, 0);
            x.passBeats(1);
            Due.due("nerveOf from " + nerve, x.nerveOf(0), Math.min(20, nerve + 1));
        }
    }

    private static void theGateAhead() {
        Sentence.of("Terms",
                "this one is at the gate ahead, if there is one (so went through a gate less).");
        for (int gate = 0; gate < 6; gate++) {
            GooseCodex x = Made.withGates(0, 0, 0, 0, 0, 0);
            x.addGoose(gate, 9);
            x.arrive(0, 0, 0);
            for (int beat = 0; beat < gate; beat++) {
                x.passBeats(1);
            }
            Due.due("passedBy ahead of it", x.passedBy(0), gate);
            x.passBeats(1);
            Due.due("passedBy behind it", x.passedBy(0), Math.max(0, gate - 1));
            Due.due("retreatOf", x.retreatOf(0), 2);
        }
    }

    private static void theBeatIsGreater() {
        Sentence.of("Terms", "3. The beat is 1 greater.");
        GooseCodex x = new GooseCodex();
        x.passBeats(1);
        Due.due("beats behind 1", x.beats(), 1);
        x.passBeats(60);
        Due.due("beats behind 60 more", x.beats(), 61);
    }

    private static void aRefusedCallChangesNothing() {
        Sentence.of("Terms", "A method that throws an exception changes nothing.");
        Due.due("isInFarm of the last", midway().isInFarm(7), true);
        refused("addGate", ARGUMENT, x -> x.addGate(10));
        refused("addGate", STATE, x -> x.addGate(9));
        refused("addGoose", INDEX, x -> x.addGoose(6, 9));
        refused("addGoose", ARGUMENT, x -> x.addGoose(5, 10));
        refused("addGoose", STATE, x -> x.addGoose(5, 9));
        refused("arrive", ARGUMENT, x -> x.arrive(9, 20, 21));
        refused("arrive", STATE, x -> x.arrive(9, 20, 20));
        refused("setRank", INDEX, x -> x.setRank(6, 9));
        refused("setRank", ARGUMENT, x -> x.setRank(5, 10));
        refused("lead, no such goose,", INDEX, x -> x.lead(8, 5));
        refused("lead, no such gate,", INDEX, x -> x.lead(7, 6));
        refused("giveCorns", INDEX, x -> x.giveCorns(8, 20));
        refused("giveCorns", ARGUMENT, x -> x.giveCorns(7, 21));
        refused("bribe, no such visitor,", INDEX, x -> x.bribe(8, 5));
        refused("bribe, no such goose,", INDEX, x -> x.bribe(0, 8));
        refused("bribe without corn", STATE, x -> x.bribe(1, 5));
        refused("bribe from the farm", STATE, x -> x.bribe(7, 5));
        refused("bribe at another gate", STATE, x -> x.bribe(0, 4));
        refused("passBeats", ARGUMENT, x -> x.passBeats(61));
        refused("inFarmAfter", ARGUMENT, x -> x.inFarmAfter(61));
        refused("beatsUntilIn", INDEX, x -> x.beatsUntilIn(8));
        refused("cornsWanted", INDEX, x -> x.cornsWanted(8));
    }

    private static void refused(String what, Class<?> want, ToIntFunction<GooseCodex> call) {
        GooseCodex x = midway();
        String before = Picture.of(x);
        Due.thrown(what, want, () -> call.applyAsInt(x));
        Due.due("all behind " + what, Picture.of(x), before);
    }

    /** The last visitor is in the farm with a corn, the first is at the last gate with one. */
    private static GooseCodex midway() {
        GooseCodex x = Made.fullest();
        x.passBeats(6);
        x.giveCorns(0, 1);
        return x;
    }

    private static void theFirstNamedException() {
        Sentence.of("Terms", "If several exceptions apply, the one that is named first is thrown.");
        refused("addGate, two apply,", ARGUMENT, x -> x.addGate(-1));
        refused("addGoose, three apply,", INDEX, x -> x.addGoose(-1, 0));
        refused("addGoose, two apply,", ARGUMENT, x -> x.addGoose(0, 0));
        refused("arrive by the rank, two apply,", ARGUMENT, x -> x.arrive(-1, 0, 0));
        refused("arrive by the nerve, two apply,", ARGUMENT, x -> x.arrive(0, -1, 0));
        refused("arrive by the corns, two apply,", ARGUMENT, x -> x.arrive(0, 0, -1));
        refused("setRank, two apply,", INDEX, x -> x.setRank(-1, -1));
        refused("giveCorns, two apply,", INDEX, x -> x.giveCorns(-1, 0));
        refused("bribe without corn, two apply,", INDEX, x -> x.bribe(1, -1));
        refused("bribe from the farm, two apply,", INDEX, x -> x.bribe(7, 8));
        refused("hissOf, two apply,", INDEX, x -> x.hissOf(6, 10));
        GooseCodex empty = new GooseCodex();
        Due.index("addGoose in a new object, two apply,", empty, () -> empty.addGoose(0, 0));
        Due.argument("arrive in a new object, two apply,", empty, () -> empty.arrive(0, 0, 21));
    }
}
