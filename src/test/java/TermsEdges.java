/** The boundary cases that the document's "What it is" and "Terms" name, a sentence a test. */
final class TermsEdges {
    private TermsEdges() {
    }

    static void run() {
        theLastCalls();
        theLastCallsOfBribes();
        timeFromZero();
        gates();
        ranksOfGates();
        behindTheLastGate();
        geese();
        tempers();
        calmOrAwake();
        visitors();
        ranksOfVisitors();
        nerves();
        corns();
        retreatForZero();
        atTheGateOfThatNumber();
        hissOfTheRank();
        hissInTheFarm();
        grades();
        daresAtTheNerve();
        bribeByHand();
        bribeInABeat();
    }

    private static void theLastCalls() {
        Sentence.of("What it is", "An object is used for at most 512 calls after it has been made");
        GooseCodex x = Made.guarded(9, 9, 9);
        x.arrive(0, 0, 20);
        for (int call = 5; call <= 511; call++) {
            x.passBeats(60);
        }
        Due.due("beats as the call 512", x.beats(), 507 * 60);
    }

    private static void theLastCallsOfBribes() {
        Sentence.of("What it is", "An object is used for at most 512 calls after it has been made");
        GooseCodex x = Made.guarded(0, 9);
        x.arrive(0, 0, 20);
        for (int round = 0; round < 24; round++) {
            for (int bribe = 0; bribe < 20; bribe++) {
                x.bribe(0, 0);
            }
            x.giveCorns(0, 20);
        }
        Due.due("eatenBy as the call 508", x.eatenBy(0), 480);
        Due.due("bribes as the call 509", x.bribes(), 480);
        Due.due("temperOf as the call 510", x.temperOf(0), 1);
        Due.due("calmFor as the call 511", x.calmFor(0), 3);
        Due.due("cornsOf as the call 512", x.cornsOf(0), 20);
    }

    private static void timeFromZero() {
        Sentence.of("Terms", "Time is told in beats, from 0.");
        Due.due("beats at first", new GooseCodex().beats(), 0);
    }

    private static void gates() {
        Sentence.of("Terms", "Gates. At most 6, numbered from 0, one behind the other;");
        GooseCodex x = new GooseCodex();
        for (int gate = 0; gate < 6; gate++) {
            Due.due("addGate", x.addGate(gate), gate);
        }
        for (int gate = 0; gate < 6; gate++) {
            Due.due("rankOf", x.rankOf(gate), gate);
        }
        Due.state("a gate too many", x, () -> x.addGate(0));
        Due.due("gates", x.gates(), 6);
        Due.index("the gate too many", x, () -> x.rankOf(6));
    }

    private static void ranksOfGates() {
        Sentence.of("Terms", "each has a rank, 0 to 9. Behind");
        for (int rank = 0; rank <= 9; rank++) {
            Due.due("rankOf", Made.withGates(rank).rankOf(0), rank);
        }
        GooseCodex x = new GooseCodex();
        Due.outside("addGate", x, 0, 9, rank -> x.addGate(rank));
    }

    private static void behindTheLastGate() {
        Sentence.of("Terms", "Behind the last one is the farm.");
        for (int gates = 1; gates <= 6; gates++) {
            GooseCodex x = Made.withGates(new int[gates]);
            x.arrive(0, 0, 0);
            for (int gate = 0; gate < gates; gate++) {
                Due.due("in at gate " + gate + " of " + gates, x.isInFarm(0), false);
                Due.due("come in", x.passBeats(1), gate == gates - 1 ? 1 : 0);
            }
            Due.due("in behind " + gates, x.isInFarm(0), true);
        }
    }

    private static void geese() {
        Sentence.of("Terms", "Geese. At most 8, numbered from 0;");
        GooseCodex x = Made.withGates(0);
        for (int goose = 0; goose < 8; goose++) {
            Due.due("addGoose", x.addGoose(0, goose + 1), goose);
        }
        for (int goose = 0; goose < 8; goose++) {
            Due.due("temperOf", x.temperOf(goose), goose + 1);
        }
        Due.state("a goose too many", x, () -> x.addGoose(0, 1));
        Due.due("geese", x.geese(), 8);
        Due.index("the goose too many", x, () -> x.temperOf(8));
    }

    private static void tempers() {
        Sentence.of("Terms", "has a temper, 1 to 9,");
        for (int temper = 1; temper <= 9; temper++) {
            Due.due("temperOf", Made.guarded(0, temper).temperOf(0), temper);
        }
        GooseCodex x = Made.withGates(0);
        Due.outside("addGoose", x, 1, 9, temper -> x.addGoose(0, temper));
    }

    private static void calmOrAwake() {
        Sentence.of("Terms",
                "is calm for some beats, or awake, if that is for 0 (awake, at first).");
        GooseCodex x = Made.guarded(0, 5);
        Due.due("calmFor at first", x.calmFor(0), 0);
        Due.due("awakeAt at first", x.awakeAt(0), 1);
        x.arrive(0, 20, 1);
        x.bribe(0, 0);
        x.passBeats(2);
        Due.due("calmFor a last beat", x.calmFor(0), 1);
        Due.due("awakeAt, calm for 1", x.awakeAt(0), 0);
        Due.due("hissOf, calm for 1", x.hissOf(0, 0), 0);
        x.passBeats(1);
        Due.due("calmFor behind it", x.calmFor(0), 0);
        Due.due("awakeAt, calm for 0", x.awakeAt(0), 1);
        Due.due("hissOf, calm for 0", x.hissOf(0, 0), 4);
    }

    private static void visitors() {
        Sentence.of("Terms", "Visitors. At most 8, numbered from 0;");
        GooseCodex x = Made.withGates(0);
        for (int visitor = 0; visitor < 8; visitor++) {
            Due.due("arrive", x.arrive(0, visitor, 0), visitor);
        }
        for (int visitor = 0; visitor < 8; visitor++) {
            Due.due("nerveOf", x.nerveOf(visitor), visitor);
        }
        Due.state("a visitor too many", x, () -> x.arrive(0, 0, 0));
        Due.due("visitors", x.visitors(), 8);
        Due.index("the visitor too many", x, () -> x.nerveOf(8));
    }

    private static void ranksOfVisitors() {
        Sentence.of("Terms", "each has a rank, 0 to 9, a nerve");
        for (int rank = 0; rank <= 9; rank++) {
            GooseCodex x = Made.guarded(9, 1);
            x.arrive(rank, 0, 0);
            Due.due("hissAt the rank " + rank, x.hissAt(0), 10 - rank);
        }
        GooseCodex y = Made.withGates(0);
        Due.outside("arrive with a rank", y, 0, 9, rank -> y.arrive(rank, 0, 0));
    }

    private static void nerves() {
        Sentence.of("Terms", "a nerve, 0 to 20,");
        for (int nerve = 0; nerve <= 20; nerve++) {
            GooseCodex x = Made.withGates(0);
            x.arrive(0, nerve, 0);
            Due.due("nerveOf", x.nerveOf(0), nerve);
        }
        GooseCodex y = Made.withGates(0);
        Due.outside("arrive with a nerve", y, 0, 20, nerve -> y.arrive(0, nerve, 0));
    }

    private static void corns() {
        Sentence.of("Terms", "and corns, 0 to 20,");
        for (int corns = 0; corns <= 20; corns++) {
            GooseCodex x = Made.withGates(0);
            x.arrive(0, 0, corns);
            Due.due("cornsOf", x.cornsOf(0), corns);
        }
        GooseCodex y = Made.withGates(0);
        Due.outside("arrive with corns", y, 0, 20, corns -> y.arrive(0, 0, corns));
    }

    private static void retreatForZero() {
        Sentence.of("Terms", "retreats for some beats, or does not, if that is for 0.");
        GooseCodex x = Made.hissing(3);
        x.arrive(0, 2, 0);
        x.passBeats(1);
        Due.due("retreatOf", x.retreatOf(0), 1);
        Due.due("come in, for 1", x.passBeats(1), 0);
        Due.due("retreatOf behind it", x.retreatOf(0), 0);
        Due.due("come in, for 0", x.passBeats(1), 1);
    }

    private static void atTheGateOfThatNumber() {
        Sentence.of("Terms", "A visitor who went through all gates is in the farm; each other one"
                + " is at the gate whose number is how many gates that one went through"
                + " (0, at first).");
        GooseCodex x = Made.withGates(0, 0, 0, 0, 0, 0);
        for (int gate = 0; gate < 6; gate++) {
            x.addGoose(gate, gate + 1);
        }
        x.arrive(0, 20, 0);
        for (int gate = 0; gate < 6; gate++) {
            Due.due("passedBy", x.passedBy(0), gate);
            Due.due("hissAt gate " + gate, x.hissAt(0), gate + 1);
            Due.due("isInFarm at gate " + gate, x.isInFarm(0), false);
            x.passBeats(1);
        }
        Due.due("passedBy all", x.passedBy(0), 6);
        Due.due("isInFarm", x.isInFarm(0), true);
    }

    private static void hissOfTheRank() {
        Sentence.of("Terms", "as much as the rank of the gate is greater than this rank"
                + " (0, if it is not), all added.");
        GooseCodex x = Made.guarded(5, 2, 3);
        int[] hisses = {15, 13, 11, 9, 7, 5, 5, 5, 5, 5};
        for (int rank = 0; rank <= 9; rank++) {
            Due.due("hissOf at the rank " + rank, x.hissOf(0, rank), hisses[rank]);
        }
        Due.due("hissOf of no goose", Made.withGates(9).hissOf(0, 0), 0);
        Due.due("hissOf of all", Made.guarded(9, 9, 9, 9, 9, 9, 9, 9, 9).hissOf(0, 0), 144);
    }

    private static void hissInTheFarm() {
        Sentence.of("Terms", "at the rank of this one; 0 in the farm.");
        GooseCodex x = Made.withGates(9, 9);
        x.addGoose(1, 9);
        x.arrive(8, 10, 0);
        Due.due("hissAt the first gate", x.hissAt(0), 0);
        x.passBeats(1);
        Due.due("hissAt the last gate", x.hissAt(0), 10);
        x.passBeats(1);
        Due.due("isInFarm", x.isInFarm(0), true);
        Due.due("hissAt in the farm", x.hissAt(0), 0);
    }

    private static void grades() {
        grade("Grades of a hiss: 0, if it is 0;", 0, 0, 0);
        grade("1 up to 5;", 1, 1, 5);
        grade("2 up to 10;", 2, 6, 10);
        grade("3 up to 20;", 3, 11, 20);
        grade("4 above that.", 4, 21, 72);
    }

    private static void grade(String quote, int grade, int from, int to) {
        Sentence.of("Terms", quote);
        for (int hiss = from; hiss <= to; hiss++) {
            GooseCodex x = Made.hissing(hiss);
            x.arrive(0, 0, 0);
            Due.due("hissAt", x.hissAt(0), hiss);
            Due.due("gradeFor " + hiss, x.gradeFor(0), grade);
        }
    }

    private static void daresAtTheNerve() {
        Sentence.of("Terms",
                "A visitor dares, if the hiss at this one is not greater than the nerve.");
        for (int hiss = 0; hiss <= 22; hiss++) {
            for (int nerve = Math.max(0, hiss - 1); nerve <= Math.min(20, hiss + 1); nerve++) {
                GooseCodex x = Made.hissing(hiss);
                x.arrive(0, nerve, 0);
                String what = " with the hiss " + hiss + " and the nerve " + nerve;
                Due.due("dares" + what, x.dares(0), hiss <= nerve);
                Due.due("passBeats(1)" + what, x.passBeats(1), hiss <= nerve ? 1 : 0);
            }
        }
    }

    private static final String BRIBING = "Bribing a goose: a corn is eaten; the goose is calm for"
            + " 3 beats then, and its temper is 1 less, at least 1.";

    private static void bribeByHand() {
        Sentence.of("Terms", BRIBING);
        for (int temper = 1; temper <= 9; temper++) {
            GooseCodex x = Made.guarded(9, temper);
            x.arrive(0, 0, 2);
            x.bribe(0, 0);
            bribed(x, 1, 1, Math.max(1, temper - 1));
            x.passBeats(1);
            Due.due("calmFor a beat later", x.calmFor(0), 2);
            GooseCodex y = Made.guarded(9, temper);
            y.arrive(0, 0, 2);
            y.bribe(0, 0);
            y.bribe(0, 0);
            bribed(y, 2, 0, Math.max(1, temper - 2));
        }
    }

    private static void bribeInABeat() {
        Sentence.of("Terms", BRIBING);
        for (int temper = 1; temper <= 9; temper++) {
            GooseCodex x = Made.guarded(9, temper);
            x.arrive(0, 0, 2);
            x.passBeats(1);
            bribed(x, 1, 1, Math.max(1, temper - 1));
        }
    }

    private static void bribed(GooseCodex x, int eaten, int corns, int temper) {
        Due.due("eatenBy", x.eatenBy(0), eaten);
        Due.due("bribes", x.bribes(), eaten);
        Due.due("cornsOf", x.cornsOf(0), corns);
        Due.due("calmFor", x.calmFor(0), 3);
        Due.due("temperOf", x.temperOf(0), temper);
    }
}
