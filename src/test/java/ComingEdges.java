/** The boundary cases that promises 1 to 9 name, a sentence a test. */
final class ComingEdges {
    private static final String NO_GATE =
            "Throws `IndexOutOfBoundsException` if there is no such gate";
    private static final String NO_VISITOR =
            "Throws `IndexOutOfBoundsException` if there is no such visitor";

    private ComingEdges() {
    }

    static void run() {
        newObject();
        addGateRank();
        addGateWhenThereAreSix();
        addGateBehindAVisitor();
        addGooseGate();
        addGooseTemper();
        addGooseWhenThereAreEight();
        arriveRank();
        arriveNerve();
        arriveCorns();
        arriveWithoutGates();
        arriveWhenThereAreEight();
        setRankGate();
        setRankRank();
        setRankToTheSame();
        leadStaysCalm();
        leadNoSuchGoose();
        leadNoSuchGate();
        giveCornsUpToTwenty();
        giveCornsVisitor();
        giveCornsCorns();
        bribeCalmOrAwake();
        bribeInRetreat();
        bribeNoSuchVisitor();
        bribeNoSuchGoose();
        bribeWithoutCorn();
        bribeInTheFarm();
        bribeAtAnotherGate();
        passBeatsOfVisitors();
        passBeatsBeats();
    }

    private static void newObject() {
        Sentence.ofPromise(1, "Creates a codex without gates, geese and visitors, at the beat 0.");
        GooseCodex x = new GooseCodex();
        Due.due("gates", x.gates(), 0);
        Due.due("geese", x.geese(), 0);
        Due.due("visitors", x.visitors(), 0);
        Due.due("beats", x.beats(), 0);
        Due.due("inFarm", x.inFarm(), 0);
        Due.due("bribes", x.bribes(), 0);
        Due.due("retreats", x.retreats(), 0);
    }

    private static void addGateRank() {
        Sentence.ofPromise(2, "Throws `IllegalArgumentException` if rank is not 0 to 9");
        GooseCodex x = new GooseCodex();
        Due.outside("addGate", x, 0, 9, rank -> x.addGate(rank));
        Due.due("addGate(0)", x.addGate(0), 0);
        Due.due("addGate(9)", x.addGate(9), 1);
    }

    private static void addGateWhenThereAreSix() {
        Sentence.ofPromise(2, "Throws `IllegalStateException` if there are 6");
        GooseCodex x = Made.withGates(0, 0, 0, 0, 0);
        Due.due("addGate, the sixth", x.addGate(9), 5);
        Due.state("addGate, the seventh", x, () -> x.addGate(9));
    }

    private static void addGateBehindAVisitor() {
        Sentence.ofPromise(2, "or some visitor came already");
        GooseCodex x = Made.withGates(0);
        x.passBeats(1);
        Due.due("addGate with nobody", x.addGate(0), 1);
        x.arrive(0, 0, 0);
        Due.state("addGate with a visitor", x, () -> x.addGate(0));
        x.passBeats(2);
        Due.due("isInFarm", x.isInFarm(0), true);
        Due.state("addGate with a visitor in the farm", x, () -> x.addGate(0));
    }

    private static void addGooseGate() {
        Sentence.ofPromise(3, NO_GATE);
        for (int gates = 0; gates <= 6; gates++) {
            GooseCodex x = Made.withGates(new int[gates]);
            Due.noSuch("addGoose", x, gates, gate -> x.addGoose(gate, 1));
            if (gates > 0) {
                Due.due("addGoose to the last", x.addGoose(gates - 1, 1), 0);
                Due.due("gateOf", x.gateOf(0), gates - 1);
            }
        }
    }

    private static void addGooseTemper() {
        Sentence.ofPromise(3, "Throws `IllegalArgumentException` if temper is not 1 to 9");
        GooseCodex x = Made.withGates(0);
        Due.outside("addGoose", x, 1, 9, temper -> x.addGoose(0, temper));
        Due.due("addGoose(0, 1)", x.addGoose(0, 1), 0);
        Due.due("addGoose(0, 9)", x.addGoose(0, 9), 1);
    }

    private static void addGooseWhenThereAreEight() {
        Sentence.ofPromise(3, "Throws `IllegalStateException` if there are 8");
        GooseCodex x = Made.guarded(0, 1, 1, 1, 1, 1, 1, 1);
        x.addGate(0);
        Due.due("addGoose, the eighth", x.addGoose(1, 9), 7);
        Due.state("addGoose, the ninth", x, () -> x.addGoose(0, 9));
        Due.state("addGoose, the ninth, at the other gate", x, () -> x.addGoose(1, 9));
    }

    private static void arriveRank() {
        Sentence.ofPromise(4, "Throws `IllegalArgumentException` if rank is not 0 to 9,");
        GooseCodex x = Made.withGates(0);
        Due.outside("arrive", x, 0, 9, rank -> x.arrive(rank, 0, 0));
        Due.due("arrive(0, 0, 0)", x.arrive(0, 0, 0), 0);
        Due.due("arrive(9, 0, 0)", x.arrive(9, 0, 0), 1);
    }

    private static void arriveNerve() {
        Sentence.ofPromise(4, "if rank is not 0 to 9, nerve is not 0 to 20,");
        GooseCodex x = Made.withGates(0);
        Due.outside("arrive", x, 0, 20, nerve -> x.arrive(0, nerve, 0));
        Due.due("arrive(0, 20, 0)", x.arrive(0, 20, 0), 0);
        Due.due("nerveOf", x.nerveOf(0), 20);
    }

    private static void arriveCorns() {
        Sentence.ofPromise(4, "or corns is not 0 to 20");
        GooseCodex x = Made.withGates(0);
        Due.outside("arrive", x, 0, 20, corns -> x.arrive(0, 0, corns));
        Due.due("arrive(0, 0, 20)", x.arrive(0, 0, 20), 0);
        Due.due("cornsOf", x.cornsOf(0), 20);
    }

    private static void arriveWithoutGates() {
        Sentence.ofPromise(4, "Throws `IllegalStateException` if there are no gates,");
        GooseCodex x = new GooseCodex();
        Due.state("arrive without gates", x, () -> x.arrive(0, 0, 0));
        x.addGate(0);
        Due.due("arrive with a gate", x.arrive(0, 0, 0), 0);
    }

    private static void arriveWhenThereAreEight() {
        Sentence.ofPromise(4, "or 8 visitors");
        GooseCodex x = Made.withGates(0);
        for (int visitor = 0; visitor < 7; visitor++) {
            x.arrive(0, 0, 0);
        }
        x.passBeats(1);
        Due.due("arrive, the eighth", x.arrive(0, 0, 0), 7);
        Due.state("arrive, the ninth", x, () -> x.arrive(0, 0, 0));
        x.passBeats(1);
        Due.due("inFarm", x.inFarm(), 8);
        Due.state("arrive, the ninth, with all in the farm", x, () -> x.arrive(0, 0, 0));
    }

    private static void setRankGate() {
        Sentence.ofPromise(5, NO_GATE);
        for (int gates = 0; gates <= 6; gates++) {
            GooseCodex x = Made.withGates(new int[gates]);
            Due.noSuch("setRank", x, gates, gate -> x.setRank(gate, 9));
            if (gates > 0) {
                Due.due("setRank of the last", x.setRank(gates - 1, 9), 0);
                Due.due("rankOf", x.rankOf(gates - 1), 9);
            }
        }
    }

    private static void setRankRank() {
        Sentence.ofPromise(5, "Throws `IllegalArgumentException` if rank is not 0 to 9");
        GooseCodex x = Made.withGates(5);
        Due.outside("setRank", x, 0, 9, rank -> x.setRank(0, rank));
        Due.due("setRank(0, 0)", x.setRank(0, 0), 5);
        Due.due("setRank(0, 9)", x.setRank(0, 9), 0);
        Due.due("rankOf", x.rankOf(0), 9);
    }

    private static void setRankToTheSame() {
        Sentence.ofPromise(5, "Returns the one before.");
        GooseCodex x = Made.withGates(7);
        Due.due("setRank to the same", x.setRank(0, 7), 7);
        Due.due("setRank to another", x.setRank(0, 2), 7);
        Due.due("setRank back", x.setRank(0, 7), 2);
    }

    private static void leadStaysCalm() {
        Sentence.ofPromise(6, "it stays as calm as it is.");
        for (int calm = 3; calm >= 0; calm--) {
            GooseCodex x = Made.withGates(0, 0);
            x.addGoose(0, 5);
            x.arrive(0, 20, 1);
            x.bribe(0, 0);
            for (int beat = 3; beat > calm; beat--) {
                x.passBeats(1);
            }
            Due.due("lead", x.lead(0, 1), 0);
            Due.due("calmFor", x.calmFor(0), calm);
            Due.due("awakeAt", x.awakeAt(1), calm == 0 ? 1 : 0);
            Due.due("lead to where it is", x.lead(0, 1), 1);
            Due.due("calmFor where it is", x.calmFor(0), calm);
        }
    }

    private static void leadNoSuchGoose() {
        Sentence.ofPromise(6, "Throws `IndexOutOfBoundsException` if there is no such goose");
        for (int geese = 0; geese <= 8; geese++) {
            GooseCodex x = Made.guarded(0, Made.alike(geese, 2));
            x.addGate(0);
            Due.noSuch("lead", x, geese, goose -> x.lead(goose, 1));
            if (geese > 0) {
                Due.due("lead the last", x.lead(geese - 1, 1), 0);
                Due.due("gateOf", x.gateOf(geese - 1), 1);
            }
        }
    }

    private static void leadNoSuchGate() {
        Sentence.ofPromise(6, "or gate");
        for (int gates = 1; gates <= 6; gates++) {
            GooseCodex x = Made.withGates(new int[gates]);
            x.addGoose(0, 1);
            Due.noSuch("lead", x, gates, gate -> x.lead(0, gate));
            Due.due("lead to the last", x.lead(0, gates - 1), 0);
            Due.due("gateOf", x.gateOf(0), gates - 1);
        }
    }

    private static void giveCornsUpToTwenty() {
        Sentence.ofPromise(7, "Gives corns to a visitor, up to 20 in all.");
        for (int corns = 0; corns <= 20; corns++) {
            for (int more = 1; more <= 20; more++) {
                GooseCodex x = Made.withGates(0);
                x.arrive(0, 0, corns);
                String what = "giveCorns " + more + " to " + corns;
                Due.due(what, x.giveCorns(0, more), Math.min(20, corns + more));
                Due.due("cornsOf behind " + what, x.cornsOf(0), Math.min(20, corns + more));
            }
        }
    }

    private static void giveCornsVisitor() {
        Sentence.ofPromise(7, NO_VISITOR);
        for (int visitors = 0; visitors <= 8; visitors++) {
            GooseCodex x = Made.visited(visitors);
            Due.noSuch("giveCorns", x, visitors, visitor -> x.giveCorns(visitor, 1));
            if (visitors > 0) {
                Due.due("giveCorns to the last", x.giveCorns(visitors - 1, 1), 1);
            }
        }
    }

    private static void giveCornsCorns() {
        Sentence.ofPromise(7, "Throws `IllegalArgumentException` if corns is not 1 to 20");
        GooseCodex x = Made.visited(2);
        Due.outside("giveCorns", x, 1, 20, corns -> x.giveCorns(0, corns));
        Due.due("giveCorns(0, 1)", x.giveCorns(0, 1), 1);
        Due.due("giveCorns(1, 20)", x.giveCorns(1, 20), 20);
        Due.outside("giveCorns to who has 20", x, 1, 20, corns -> x.giveCorns(1, corns));
    }

    private static void bribeCalmOrAwake() {
        Sentence.ofPromise(8, "A visitor bribes a goose at once, calm or awake, at the gate where"
                + " this one is;");
        GooseCodex x = Made.guarded(9, 3);
        x.arrive(0, 20, 4);
        Due.due("bribe, awake", x.bribe(0, 0), 2);
        Due.due("calmFor at once", x.calmFor(0), 3);
        Due.due("bribe, calm", x.bribe(0, 0), 1);
        Due.due("bribe, at the least temper", x.bribe(0, 0), 1);
        Due.due("calmFor, not more", x.calmFor(0), 3);
        Due.due("beats", x.beats(), 0);
        GooseCodex y = Made.withGates(0, 0);
        y.addGoose(0, 9);
        y.addGoose(1, 9);
        y.arrive(0, 9, 1);
        y.passBeats(1);
        Due.due("bribe at the last gate", y.bribe(0, 1), 8);
    }

    private static void bribeInRetreat() {
        Sentence.ofPromise(8, "who retreats goes on retreating.");
        GooseCodex x = Made.hissing(9);
        x.arrive(0, 0, 0);
        x.passBeats(1);
        x.giveCorns(0, 1);
        Due.due("bribe", x.bribe(0, 0), 8);
        Due.due("retreatOf at once", x.retreatOf(0), 2);
        Due.due("come in", x.passBeats(1), 0);
        Due.due("retreatOf a beat later", x.retreatOf(0), 1);
        Due.due("retreats", x.retreats(), 1);
    }

    private static void bribeNoSuchVisitor() {
        Sentence.ofPromise(8, NO_VISITOR);
        for (int visitors = 0; visitors <= 8; visitors++) {
            GooseCodex x = Made.visited(visitors);
            x.addGoose(0, 1);
            Due.noSuch("bribe", x, visitors, visitor -> x.bribe(visitor, 0));
        }
    }

    private static void bribeNoSuchGoose() {
        Sentence.ofPromise(8, "or goose");
        for (int geese = 0; geese <= 8; geese++) {
            GooseCodex x = Made.guarded(0, Made.alike(geese, 2));
            x.arrive(0, 0, 1);
            Due.noSuch("bribe", x, geese, goose -> x.bribe(0, goose));
            if (geese > 0) {
                Due.due("bribe the last", x.bribe(0, geese - 1), 1);
                Due.due("eatenBy the last", x.eatenBy(geese - 1), 1);
            }
        }
    }

    private static void bribeWithoutCorn() {
        Sentence.ofPromise(8, "Throws `IllegalStateException` if the visitor has no corn,");
        GooseCodex x = Made.guarded(0, 5);
        x.arrive(0, 0, 1);
        x.arrive(0, 0, 0);
        Due.state("bribe without corn", x, () -> x.bribe(1, 0));
        Due.due("bribe with the last corn", x.bribe(0, 0), 4);
        Due.state("bribe behind the last corn", x, () -> x.bribe(0, 0));
    }

    private static void bribeInTheFarm() {
        Sentence.ofPromise(8, "is in the farm,");
        for (int gates = 1; gates <= 6; gates++) {
            GooseCodex x = Made.withGates(new int[gates]);
            x.addGoose(gates - 1, 9);
            x.arrive(0, 20, 2);
            for (int gate = 1; gate < gates; gate++) {
                x.passBeats(1);
            }
            Due.due("bribe at the last gate", x.bribe(0, 0), 8);
            x.passBeats(1);
            Due.due("isInFarm", x.isInFarm(0), true);
            Due.state("bribe from the farm", x, () -> x.bribe(0, 0));
        }
    }

    private static void bribeAtAnotherGate() {
        Sentence.ofPromise(8, "or the goose keeps another gate");
        GooseCodex x = Made.withGates(0, 0, 0);
        x.addGoose(0, 1);
        x.addGoose(1, 2);
        x.addGoose(2, 3);
        x.arrive(0, 20, 5);
        x.passBeats(1);
        Due.state("bribe at the gate ahead", x, () -> x.bribe(0, 0));
        Due.state("bribe at the gate behind", x, () -> x.bribe(0, 2));
        Due.due("bribe here", x.bribe(0, 1), 1);
        x.lead(1, 2);
        Due.state("bribe the one led away", x, () -> x.bribe(0, 1));
        x.lead(2, 1);
        Due.due("bribe the one led here", x.bribe(0, 2), 2);
    }

    private static void passBeatsOfVisitors() {
        Sentence.ofPromise(9, "Returns how many visitors come into the farm in them.");
        GooseCodex x = Made.withGates(0, 0);
        Due.due("passBeats with nobody", x.passBeats(60), 0);
        for (int visitor = 0; visitor < 7; visitor++) {
            x.arrive(0, 0, 0);
        }
        Due.due("passBeats to the last gate", x.passBeats(1), 0);
        x.arrive(0, 0, 0);
        Due.due("passBeats, all but one", x.passBeats(1), 7);
        Due.due("passBeats, the last one", x.passBeats(1), 1);
        Due.due("passBeats with all in the farm", x.passBeats(60), 0);
        GooseCodex y = Made.visited(8);
        Due.due("passBeats, all at once", y.passBeats(1), 8);
    }

    private static void passBeatsBeats() {
        Sentence.ofPromise(9, "Throws `IllegalArgumentException` if beats is not 1 to 60");
        GooseCodex x = Made.visited(1);
        Due.outside("passBeats", x, 1, 60, beats -> x.passBeats(beats));
        Due.due("passBeats(1)", x.passBeats(1), 1);
        Due.due("beats behind 1", x.beats(), 1);
        Due.due("passBeats(60)", x.passBeats(60), 0);
        Due.due("beats behind 60 more", x.beats(), 61);
    }
}
