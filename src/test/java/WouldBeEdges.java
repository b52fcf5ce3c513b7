import java.math.BigInteger;
import java.util.ArrayList;
import java.util.List;
import java.util.function.ToIntBiFunction;

/** The boundary cases that promises 33 to 41 name, a sentence a test. */
final class WouldBeEdges {
    private static final String NOTHING = "(nothing is changed)";

    private WouldBeEdges() {
    }

    static void run() {
        beatsUntilInByHand();
        beatsUntilInNow();
        beatsUntilInAtMostSixty();
        beatsUntilInNotByThen();
        inFarmAfterByHand();
        inFarmAfterBeats();
        cornsWantedFewest();
        cornsWantedInThePlaceOfThose();
        cornsWantedWithinForty();
        cornsWantedByHand();
        cornsWantedTwentyDoNotDo();
        nothingIsChanged();
        noSuchVisitor();
        bestToBribeOfSeveral();
        bestToBribeNoneAwake();
        bestToBribeInTheFarm();
        bribesWantedFewest();
        bribesWantedWhoDares();
        bribesWantedInTheFarm();
        rankWantedLeast();
        rankWantedNone();
        rankWantedInTheFarm();
        firstBarGreater();
        firstBarNone();
        firstBarRank();
        firstBarNerve();
        meanTemperWithoutGeese();
        digestStart();
        digestWrapsAround();
        digestOfWhetherSo();
    }

    private static void beatsUntilInByHand() {
        Sentence.ofPromise(33,
                "Returns in how many beats this one is in the farm, if nothing is done by hand:");
        GooseCodex x = Made.hissing(7);
        x.arrive(0, 0, 0);
        x.arrive(0, 0, 1);
        // Its first retreat goes on while the goose is calm; from the beat 4 on each of five more
        // takes 3 beats, up to the nerve 6.
        Due.due("beatsUntilIn(0)", x.beatsUntilIn(0), 19);
        Due.due("beatsUntilIn(1)", x.beatsUntilIn(1), 2);
        x.bribe(1, 0);
        Due.due("beatsUntilIn(0), bribed by hand", x.beatsUntilIn(0), 1);
        GooseCodex y = Made.guarded(9, 1);
        y.arrive(9, 1, 0);
        y.arrive(8, 1, 1);
        Due.due("beatsUntilIn at the rank of the gate", y.beatsUntilIn(0), 1);
        Due.due("beatsUntilIn at a rank less", y.beatsUntilIn(1), 2);
    }

    private static void beatsUntilInNow() {
        Sentence.ofPromise(33, "0 if so now,");
        GooseCodex x = Made.visited(1);
        Due.due("beatsUntilIn at the last gate", x.beatsUntilIn(0), 1);
        x.passBeats(1);
        Due.due("beatsUntilIn in the farm", x.beatsUntilIn(0), 0);
    }

    /** A hiss of 18 makes one retreat for 3 beats, so that a nerve more takes 4 beats. */
    private static GooseCodex waiting(int nerve) {
        GooseCodex x = Made.guarded(9, 9);
        x.arrive(0, nerve, 0);
        return x;
    }

    private static void beatsUntilInAtMostSixty() {
        Sentence.ofPromise(33, "at most 60;");
        GooseCodex x = waiting(3);
        x.passBeats(1);
        Due.due("beatsUntilIn, 60", x.beatsUntilIn(0), 60);
        Due.due("come in in 59", x.passBeats(59), 0);
        Due.due("beatsUntilIn, 1", x.beatsUntilIn(0), 1);
        Due.due("come in in 1 more", x.passBeats(1), 1);
    }

    private static void beatsUntilInNotByThen() {
        Sentence.ofPromise(33, "-1 if not by then (nothing is changed).");
        GooseCodex x = waiting(3);
        Due.due("beatsUntilIn, 61", x.beatsUntilIn(0), -1);
        Due.due("come in in 60", x.passBeats(60), 0);
        Due.due("come in in 1 more", x.passBeats(1), 1);
        GooseCodex never = Made.guarded(9, 9, 9);
        never.arrive(0, 0, 0);
        Due.due("beatsUntilIn, never", never.beatsUntilIn(0), -1);
    }

    private static void inFarmAfterByHand() {
        Sentence.ofPromise(34, "Returns how many visitors are in the farm behind them, if nothing"
                + " is done by hand");
        GooseCodex x = Made.hissing(7);
        x.arrive(0, 0, 0);
        x.arrive(0, 7, 0);
        Due.due("inFarmAfter(1)", x.inFarmAfter(1), 1);
        x.giveCorns(1, 1);
        x.bribe(1, 0);
        Due.due("inFarmAfter(1), bribed by hand", x.inFarmAfter(1), 2);
        x.passBeats(1);
        Due.due("inFarmAfter(1), all in already", x.inFarmAfter(1), 2);
        Due.due("inFarmAfter without gates", new GooseCodex().inFarmAfter(60), 0);
        Due.due("inFarmAfter, all of eight", Made.visited(8).inFarmAfter(1), 8);
    }

    private static void inFarmAfterBeats() {
        Sentence.ofPromise(34, "Throws `IllegalArgumentException` if beats is not 1 to 60");
        GooseCodex x = waiting(3);
        Due.outside("inFarmAfter", x, 1, 60, beats -> x.inFarmAfter(beats));
        Due.due("inFarmAfter(60), one beat too few", x.inFarmAfter(60), 0);
        x.passBeats(1);
        Due.due("inFarmAfter(60)", x.inFarmAfter(60), 1);
        Due.due("inFarmAfter(59)", x.inFarmAfter(59), 0);
        x.passBeats(59);
        Due.due("inFarmAfter(1)", x.inFarmAfter(1), 1);
    }

    private static void cornsWantedFewest() {
        Sentence.ofPromise(35, "Returns the fewest corns, 0 to 20,");
        GooseCodex none = Made.visited(1);
        Due.due("cornsWanted, 0", none.cornsWanted(0), 0);
        none.passBeats(1);
        Due.due("cornsWanted in the farm, 0", none.cornsWanted(0), 0);
        // Of three geese two are calm at a time, so 18 corns bring all from 9 down to the nerve
        // of 3; the two at the last gate take 2 more, and with a third there 20 do not do.
        GooseCodex most = Made.withGates(0, 0);
        for (int goose = 0; goose < 5; goose++) {
            most.addGoose(goose < 3 ? 0 : 1, 9);
        }
        most.arrive(0, 3, 0);
        Due.due("cornsWanted, 20", most.cornsWanted(0), 20);
        most.giveCorns(0, 20);
        Due.due("beatsUntilIn with 20", most.beatsUntilIn(0), 22);
        most.addGoose(1, 9);
        Due.due("cornsWanted, more than 20", most.cornsWanted(0), -1);
    }

    private static void cornsWantedInThePlaceOfThose() {
        Sentence.ofPromise(35, "having them now in the place of those,");
        for (int corns = 0; corns <= 20; corns++) {
            GooseCodex x = Made.guarded(9, 9, 9);
            x.arrive(0, 0, corns);
            Due.due("cornsWanted by who has " + corns, x.cornsWanted(0), 2);
        }
    }

    private static void cornsWantedWithinForty() {
        Sentence.ofPromise(35, "would be in the farm within 40 beats,");
        GooseCodex x = waiting(8);
        Due.due("beatsUntilIn, 41", x.beatsUntilIn(0), 41);
        Due.due("cornsWanted, as 41 beats do not do", x.cornsWanted(0), 1);
        x.passBeats(1);
        Due.due("beatsUntilIn, 40", x.beatsUntilIn(0), 40);
        Due.due("cornsWanted, as 40 beats do", x.cornsWanted(0), 0);
    }

    private static void cornsWantedByHand() {
        Sentence.ofPromise(35, "if nothing is done by hand;");
        GooseCodex x = Made.guarded(9, 9);
        x.arrive(0, 0, 1);
        x.arrive(0, 0, 0);
        Due.due("cornsWanted, behind the bribe of another", x.cornsWanted(1), 0);
        Due.due("cornsWanted by that one", x.cornsWanted(0), 1);
        x.bribe(0, 0);
        Due.due("cornsWanted, bribed by hand", x.cornsWanted(0), 0);
    }

    private static void cornsWantedTwentyDoNotDo() {
        Sentence.ofPromise(35, "-1 if 20 do not do (nothing is changed).");
        // Only two geese are calm at a time, and the nerve that 40 beats of retreats bring is
        // less than the 10 that the third one hisses at the least.
        GooseCodex x = Made.guarded(9, 9, 9, 9);
        x.arrive(0, 0, 20);
        Due.due("beatsUntilIn with 20", x.beatsUntilIn(0), -1);
        Due.due("cornsWanted", x.cornsWanted(0), -1);
        GooseCodex y = Made.guarded(9, 9, 9);
        y.arrive(0, 0, 0);
        Due.due("cornsWanted with a goose less", y.cornsWanted(0), 2);
    }

    private static void nothingIsChanged() {
        GooseCodex x = Made.fullest();
        x.passBeats(3);
        String before = Picture.of(x);
        Sentence.ofPromise(33, NOTHING);
        for (int visitor = 0; visitor < 8; visitor++) {
            x.beatsUntilIn(visitor);
        }
        Due.due("all behind beatsUntilIn", Picture.of(x), before);
        Sentence.ofPromise(34, NOTHING);
        x.inFarmAfter(60);
        Due.due("all behind inFarmAfter", Picture.of(x), before);
        Sentence.ofPromise(35, NOTHING);
        for (int visitor = 0; visitor < 8; visitor++) {
            x.cornsWanted(visitor);
        }
        Due.due("all behind cornsWanted", Picture.of(x), before);
    }

    private static void noSuchVisitor() {
        noSuchVisitor(33, "beatsUntilIn", 3, (x, visitor) -> x.beatsUntilIn(visitor));
        noSuchVisitor(35, "cornsWanted", 2, (x, visitor) -> x.cornsWanted(visitor));
        noSuchVisitor(36, "bestToBribe", 1, (x, visitor) -> x.bestToBribe(visitor));
        noSuchVisitor(37, "bribesWanted", 2, (x, visitor) -> x.bribesWanted(visitor));
        noSuchVisitor(38, "rankWanted", -1, (x, visitor) -> x.rankWanted(visitor));
    }

    /** With nobody, and with each number of visitors up to the most, of whom one has corn. */
    private static void noSuchVisitor(int promise, String name, int ofTheLast,
            ToIntBiFunction<GooseCodex, Integer> call) {
        Sentence.ofPromise(promise,
                "Throws `IndexOutOfBoundsException` if there is no such visitor");
        for (int visitors = 0; visitors <= 8; visitors++) {
            GooseCodex x = Made.guarded(9, 8, 9);
            for (int visitor = 0; visitor < visitors; visitor++) {
                x.arrive(0, 0, visitor == visitors - 1 ? 9 : 0);
            }
            if (visitors > 0) {
                Due.due(name + " the last", call.applyAsInt(x, visitors - 1), ofTheLast);
            }
            Due.noSuch(name, x, visitors, visitor -> call.applyAsInt(x, visitor));
        }
    }

    private static void bestToBribeOfSeveral() {
        Sentence.ofPromise(36, "of those awake at the gate of this one, so that the hiss at this"
                + " one is the least, of several the smallest number;");
        GooseCodex x = Made.withGates(5, 9);
        x.addGoose(1, 9);
        x.addGoose(0, 1);
        x.addGoose(0, 6);
        x.addGoose(0, 6);
        x.arrive(0, 0, 9);
        Due.due("bestToBribe, of two", x.bestToBribe(0), 2);
        x.bribe(0, 2);
        Due.due("bestToBribe, the other", x.bestToBribe(0), 3);
        x.bribe(0, 3);
        Due.due("bestToBribe, the only one", x.bestToBribe(0), 1);
        GooseCodex y = Made.guarded(9, 1, 1, 1, 1, 1, 1, 1, 1);
        y.arrive(0, 20, 0);
        Due.due("bestToBribe, of eight alike", y.bestToBribe(0), 0);
        GooseCodex z = Made.guarded(9, 1, 1, 1, 1, 1, 1, 1, 2);
        z.arrive(0, 20, 0);
        Due.due("bestToBribe, the last of eight", z.bestToBribe(0), 7);
    }

    private static void bestToBribeNoneAwake() {
        Sentence.ofPromise(36, "-1 if none is awake there,");
        GooseCodex x = Made.withGates(0, 0);
        x.arrive(0, 0, 1);
        Due.due("bestToBribe without geese", x.bestToBribe(0), -1);
        x.addGoose(1, 9);
        Due.due("bestToBribe with one at another gate", x.bestToBribe(0), -1);
        x.addGoose(0, 9);
        Due.due("bestToBribe with one there", x.bestToBribe(0), 1);
        x.bribe(0, 1);
        Due.due("bestToBribe with one calm there", x.bestToBribe(0), -1);
    }

    private static void bestToBribeInTheFarm() {
        Sentence.ofPromise(36, "or in the farm.");
        Due.due("bestToBribe in the farm", behindTheGoose().bestToBribe(0), -1);
    }

    /** One visitor without nerve or corn in the farm, and a goose awake at the only gate. */
    private static GooseCodex behindTheGoose() {
        GooseCodex x = Made.visited(1);
        x.passBeats(1);
        x.setRank(0, 9);
        x.addGoose(0, 9);
        Due.due("isInFarm", x.isInFarm(0), true);
        return x;
    }

    private static void bribesWantedFewest() {
        Sentence.ofPromise(37, "Returns the fewest geese at the gate of this one that had to be"
                + " calm, of those awake, so that this one would dare;");
        int[] wanted = {4, 3, 3, 3, 2, 2, 2, 2, 2, 1, 1, 1, 1, 1, 1, 1, 1, 0, 0, 0, 0};
        for (int nerve = 0; nerve <= 20; nerve++) {
            GooseCodex x = Made.guarded(0, 1, 5, 8, 3);
            x.addGate(0);
            x.addGoose(1, 9);
            x.arrive(0, nerve, 0);
            Due.due("bribesWanted with the nerve " + nerve, x.bribesWanted(0), wanted[nerve]);
        }
        int[] withRanks = {3, 3, 3, 3, 3, 3, 3, 2, 2, 2, 2, 2, 2, 2, 2, 1, 1, 1, 1, 1, 1};
        for (int nerve = 0; nerve <= 20; nerve++) {
            GooseCodex x = Made.guarded(8, 3, 4, 2);
            x.arrive(3, nerve, 0);
            Due.due("bribesWanted by the ranks, " + nerve, x.bribesWanted(0), withRanks[nerve]);
        }
        GooseCodex all = Made.guarded(9, 9, 9, 9, 9, 9, 9, 9, 9);
        all.arrive(0, 0, 1);
        Due.due("bribesWanted, all of eight", all.bribesWanted(0), 8);
        all.bribe(0, 0);
        Due.due("bribesWanted, all of seven awake", all.bribesWanted(0), 7);
    }

    private static void bribesWantedWhoDares() {
        Sentence.ofPromise(37, "0 if this one dares,");
        for (int hiss = 1; hiss <= 20; hiss++) {
            GooseCodex x = Made.hissing(hiss);
            x.arrive(0, hiss, 0);
            x.arrive(0, hiss - 1, 0);
            Due.due("bribesWanted at the hiss " + hiss, x.bribesWanted(0), 0);
            Due.due("bribesWanted with a nerve less", x.bribesWanted(1), 1);
        }
        Due.due("bribesWanted without geese", Made.visited(1).bribesWanted(0), 0);
    }

    private static void bribesWantedInTheFarm() {
        Sentence.ofPromise(37, "or in the farm.");
        Due.due("bribesWanted in the farm", behindTheGoose().bribesWanted(0), 0);
    }

    private static void rankWantedLeast() {
        Sentence.ofPromise(38, "Returns the least rank, 0 to 9, with which this one would dare now,"
                + " with the nerve of now;");
        for (int nerve = 5; nerve <= 20; nerve++) {
            GooseCodex x = Made.guarded(9, 5);
            x.arrive(nerve % 10, nerve, 0);
            String what = "rankWanted with the nerve " + nerve;
            Due.due(what, x.rankWanted(0), Math.max(0, 14 - nerve));
        }
    }

    private static void rankWantedNone() {
        Sentence.ofPromise(38, "-1 if there is none;");
        GooseCodex x = Made.guarded(9, 5);
        x.arrive(9, 5, 0);
        x.arrive(9, 4, 0);
        Due.due("rankWanted at the nerve", x.rankWanted(0), 9);
        Due.due("rankWanted with a nerve less", x.rankWanted(1), -1);
    }

    private static void rankWantedInTheFarm() {
        Sentence.ofPromise(38, "0 in the farm.");
        Due.due("rankWanted in the farm", behindTheGoose().rankWanted(0), 0);
    }

    private static void firstBarGreater() {
        Sentence.ofPromise(39, "Returns the first gate whose hiss at this rank is greater than this"
                + " nerve, as all is now;");
        GooseCodex x = Made.withGates(0, 0, 0, 0, 0, 0);
        for (int gate = 0; gate < 6; gate++) {
            x.addGoose(gate, gate + 2);
        }
        int[] bars = {0, 0, 1, 2, 3, 4, 5, -1, -1};
        for (int nerve = 0; nerve < bars.length; nerve++) {
            Due.due("firstBar(0, " + nerve + ")", x.firstBar(0, nerve), bars[nerve]);
        }
        x.setRank(0, 9);
        Due.due("firstBar(9, 2)", x.firstBar(9, 2), 1);
        Due.due("firstBar(8, 2)", x.firstBar(8, 2), 0);
    }

    private static void firstBarNone() {
        Sentence.ofPromise(39, "-1 if there is none.");
        GooseCodex x = new GooseCodex();
        Due.due("firstBar without gates", x.firstBar(0, 0), -1);
        x.addGate(9);
        Due.due("firstBar without geese", x.firstBar(0, 0), -1);
        x.addGoose(0, 9);
        Due.due("firstBar(0, 17)", x.firstBar(0, 17), 0);
        Due.due("firstBar(0, 18)", x.firstBar(0, 18), -1);
    }

    private static void firstBarRank() {
        Sentence.ofPromise(39, "Throws `IllegalArgumentException` if rank is not 0 to 9,");
        GooseCodex x = Made.guarded(9, 9);
        Due.outside("firstBar", x, 0, 9, rank -> x.firstBar(rank, 0));
        Due.due("firstBar(0, 9)", x.firstBar(0, 9), 0);
        Due.due("firstBar(9, 9)", x.firstBar(9, 9), -1);
    }

    private static void firstBarNerve() {
        Sentence.ofPromise(39, "or nerve is not 0 to 20");
        GooseCodex x = Made.guarded(9, 3, 3);
        Due.outside("firstBar", x, 0, 20, nerve -> x.firstBar(0, nerve));
        Due.due("firstBar(0, 0)", x.firstBar(0, 0), 0);
        Due.due("firstBar(0, 20)", x.firstBar(0, 20), 0);
        Due.due("firstBar(2, 20)", x.firstBar(2, 20), -1);
    }

    private static void meanTemperWithoutGeese() {
        Sentence.ofPromise(40, "Returns the mean temper of geese; 0 without any.");
        GooseCodex x = new GooseCodex();
        Due.due("meanTemper without gates", x.meanTemper(), 0.0);
        x.addGate(9);
        Due.due("meanTemper without geese", x.meanTemper(), 0.0);
        x.addGoose(0, 1);
        Due.due("meanTemper of one", x.meanTemper(), 1.0);
        int sum = 1;
        for (int geese = 2; geese <= 8; geese++) {
            x.addGoose(0, geese == 2 ? 9 : geese);
            sum += geese == 2 ? 9 : geese;
            Due.due("meanTemper of " + geese, x.meanTemper(), (double) sum / geese);
        }
    }

    private static void digestStart() {
        Sentence.ofPromise(41, "A number d starts with 1973; for each of the following numbers x,"
                + " d becomes d * 31 + x,");
        // Seven times 0, and then the -1 of loudestGate.
        long power = 31L * 31 * 31 * 31 * 31 * 31 * 31 * 31;
        Due.due("digest of a new object", new GooseCodex().digest(), 1973 * power - 1);
    }

    private static void digestWrapsAround() {
        Sentence.ofPromise(41, "which wraps around as a 64-bit integer");
        // A codex for each, since asking it by hand takes some 160 of its 512 calls.
        for (int beats = 1; beats <= 8; beats++) {
            GooseCodex x = Made.fullest();
            x.passBeats(beats);
            BigInteger wanted = byHand(x);
            Due.due("digest at " + beats, x.digest(), wanted.longValue());
            Due.due("is it beyond 64 bits", wanted.bitLength() > 64, true);
        }
    }

    private static void digestOfWhetherSo() {
        Sentence.ofPromise(41, "(whether something is so counts 1 or 0)");
        for (int nerve = 2; nerve <= 3; nerve++) {
            GooseCodex x = Made.hissing(3);
            x.arrive(0, nerve, 0);
            Due.due("dares", x.dares(0), nerve == 3);
            Due.due("digest", x.digest(), byHand(x).longValue());
        }
        GooseCodex inside = behindTheGoose();
        Due.due("digest with one in the farm", inside.digest(), byHand(inside).longValue());
    }

    /** The digest without an end of its digits, by what the other calls answer. */
    private static BigInteger byHand(GooseCodex x) {
        List<Integer> all = new ArrayList<>(List.of(x.beats(), x.gates(), x.geese(), x.visitors(),
                x.inFarm(), x.bribes(), x.retreats(), x.loudestGate()));
        for (int gate = 0; gate < x.gates(); gate++) {
            all.addAll(List.of(x.rankOf(gate), x.awakeAt(gate)));
        }
        for (int goose = 0; goose < x.geese(); goose++) {
            all.addAll(List.of(x.gateOf(goose), x.temperOf(goose), x.calmFor(goose),
                    x.eatenBy(goose)));
        }
        for (int visitor = 0; visitor < x.visitors(); visitor++) {
            all.addAll(List.of(x.passedBy(visitor), x.cornsOf(visitor), x.nerveOf(visitor),
                    x.retreatOf(visitor), x.hissAt(visitor), x.dares(visitor) ? 1 : 0,
                    x.beatsUntilIn(visitor), x.bestToBribe(visitor), x.bribesWanted(visitor),
                    x.rankWanted(visitor)));
        }
        BigInteger d = BigInteger.valueOf(1973);
        for (int number : all) {
            d = d.multiply(BigInteger.valueOf(31)).add(BigInteger.valueOf(number));
        }
        return d;
    }
}
