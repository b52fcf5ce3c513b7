/** Promises 33 to 41: what would be. */
public final class WouldBeTest {
    public static void main(String[] args) {
        promise33BeatsUntilIn();
        promise33AtMostSixty();
        promise34InFarmAfter();
        promise35CornsWanted();
        promise35AllTwenty();
        promise35WithinForty();
        promise35FewerCanDoBetter();
        promise36BestToBribe();
        promise37BribesWanted();
        promise38RankWanted();
        promise39FirstBar();
        promise40MeanTemper();
        promise41Digest();
        nobodyThere();
        Due.end();
    }

    private static void promise33BeatsUntilIn() {
        GooseCodex x = new GooseCodex();
        x.addGate(0);
        x.addGate(0);
        x.addGoose(1, 4);
        x.arrive(0, 4, 0);
        x.arrive(0, 3, 2);
        x.arrive(0, 0, 0);
        String before = Picture.of(x);
        Due.due("33 beatsUntilIn(0)", x.beatsUntilIn(0), 2);
        Due.due("33 beatsUntilIn(1), with a bribe", x.beatsUntilIn(1), 3);
        Due.due("33 beatsUntilIn(2), behind the bribe of another", x.beatsUntilIn(2), 2);
        Due.due("33 nothing is changed", Picture.of(x), before);
        x.passBeats(2);
        Due.due("33 beatsUntilIn(0) in the farm", x.beatsUntilIn(0), 0);
        Due.due("33 beatsUntilIn(1) later", x.beatsUntilIn(1), 1);
    }

    /** A hiss of 18 makes one retreat for 3 beats, so that a nerve more takes 4 beats. */
    private static void promise33AtMostSixty() {
        GooseCodex x = new GooseCodex();
        x.addGate(9);
        x.addGoose(0, 9);
        x.arrive(0, 6, 0);
        Due.due("33 hissAt", x.hissAt(0), 18);
        Due.due("33 beatsUntilIn, 12 retreats and then the gate", x.beatsUntilIn(0), 49);
        GooseCodex y = new GooseCodex();
        y.addGate(9);
        y.addGoose(0, 9);
        y.arrive(0, 4, 0);
        Due.due("33 beatsUntilIn, 57", y.beatsUntilIn(0), 57);
        y.arrive(0, 3, 0);
        Due.due("33 beatsUntilIn, 61 is too late", y.beatsUntilIn(1), -1);
        y.passBeats(1);
        Due.due("33 beatsUntilIn, 60", y.beatsUntilIn(1), 60);
        GooseCodex z = new GooseCodex();
        z.addGate(9);
        z.addGoose(0, 9);
        z.addGoose(0, 9);
        z.arrive(0, 20, 0);
        Due.due("33 beatsUntilIn, never", z.beatsUntilIn(0), -1);
    }

    private static void promise34InFarmAfter() {
        GooseCodex x = new GooseCodex();
        Due.due("34 inFarmAfter(60) with nobody", x.inFarmAfter(60), 0);
        x.addGate(0);
        x.addGate(0);
        x.addGoose(1, 4);
        x.arrive(0, 4, 0);
        x.arrive(0, 3, 2);
        x.arrive(0, 0, 0);
        String before = Picture.of(x);
        Due.due("34 inFarmAfter(1)", x.inFarmAfter(1), 0);
        Due.due("34 inFarmAfter(2)", x.inFarmAfter(2), 2);
        Due.due("34 inFarmAfter(3)", x.inFarmAfter(3), 3);
        Due.due("34 inFarmAfter(60)", x.inFarmAfter(60), 3);
        Due.due("34 nothing is changed", Picture.of(x), before);
        x.passBeats(2);
        Due.due("34 inFarmAfter(1), who is in counts too", x.inFarmAfter(1), 3);
        Due.argument("34 inFarmAfter(0)", x, () -> x.inFarmAfter(0));
        Due.argument("34 inFarmAfter(61)", x, () -> x.inFarmAfter(61));
        Due.argument("34 inFarmAfter(-1)", x, () -> x.inFarmAfter(-1));
    }

    private static void promise35CornsWanted() {
        GooseCodex x = new GooseCodex();
        x.addGate(9);
        x.addGate(9);
        x.addGoose(0, 9);
        x.addGoose(1, 9);
        x.addGoose(1, 9);
        x.arrive(0, 0, 20);
        String before = Picture.of(x);
        Due.due("35 cornsWanted, in the place of its 20", x.cornsWanted(0), 3);
        Due.due("35 nothing is changed", Picture.of(x), before);
        x.addGoose(1, 9);
        Due.due("35 cornsWanted, 20 do not do", x.cornsWanted(0), -1);
        x.lead(1, 0);
        x.lead(2, 0);
        x.lead(3, 0);
        Due.due("35 cornsWanted, more geese at the first", x.cornsWanted(0), -1);
        GooseCodex y = new GooseCodex();
        y.addGate(9);
        y.addGoose(0, 9);
        y.arrive(0, 0, 20);
        y.arrive(0, 0, 0);
        Due.due("35 cornsWanted, alone", y.cornsWanted(0), 1);
        Due.due("35 cornsWanted, the other's bribe helps", y.cornsWanted(1), 0);
        y.passBeats(2);
        Due.due("35 both are in", y.inFarm(), 2);
        Due.due("35 cornsWanted in the farm", y.cornsWanted(0), 0);
    }

    /**
     * Two of the three geese are calm at a time, so 18 corns bring all three from 9 down to the
     * nerve of 3; then the next gate takes 2 more.
     */
    private static void promise35AllTwenty() {
        GooseCodex x = new GooseCodex();
        x.addGate(0);
        x.addGate(0);
        for (int goose = 0; goose < 5; goose++) {
            x.addGoose(goose < 3 ? 0 : 1, 9);
        }
        x.arrive(0, 3, 0);
        Due.due("35 cornsWanted, 20", x.cornsWanted(0), 20);
        x.giveCorns(0, 19);
        Due.due("35 beatsUntilIn with 19 is not within 40", isWithinForty(x), false);
        x.giveCorns(0, 1);
        Due.due("35 beatsUntilIn with 20", x.beatsUntilIn(0), 22);
    }

    /** A hiss of 18: each nerve more takes 4 beats. */
    private static void promise35WithinForty() {
        GooseCodex x = new GooseCodex();
        x.addGate(9);
        x.addGoose(0, 9);
        x.arrive(0, 8, 0);
        Due.due("35 beatsUntilIn, 41", x.beatsUntilIn(0), 41);
        Due.due("35 cornsWanted, 41 do not do", x.cornsWanted(0), 1);
        x.passBeats(1);
        Due.due("35 beatsUntilIn, 40", x.beatsUntilIn(0), 40);
        Due.due("35 cornsWanted, 40 do", x.cornsWanted(0), 0);
    }

    /** Who bribes four geese, two of which are awake again each time, gets no nerve meanwhile. */
    private static void promise35FewerCanDoBetter() {
        GooseCodex x = new GooseCodex();
        x.addGate(1);
        for (int goose = 0; goose < 4; goose++) {
            x.addGoose(0, 1);
        }
        x.arrive(0, 0, 20);
        Due.due("35 beatsUntilIn with 20 is not within 40", isWithinForty(x), false);
        Due.due("35 cornsWanted, the fewest", x.cornsWanted(0), 0);
    }

    private static boolean isWithinForty(GooseCodex x) {
        int beats = x.beatsUntilIn(0);
        return beats >= 0 && beats <= 40;
    }

    private static void promise36BestToBribe() {
        GooseCodex x = new GooseCodex();
        x.addGate(3);
        x.addGate(9);
        x.arrive(0, 20, 9);
        Due.due("36 bestToBribe without geese", x.bestToBribe(0), -1);
        x.addGoose(1, 9);
        Due.due("36 bestToBribe, none there", x.bestToBribe(0), -1);
        x.addGoose(0, 2);
        x.addGoose(0, 6);
        x.addGoose(0, 6);
        x.addGoose(0, 5);
        Due.due("36 bestToBribe, of two the smallest number", x.bestToBribe(0), 2);
        x.bribe(0, 2);
        Due.due("36 bestToBribe, of those awake", x.bestToBribe(0), 3);
        x.bribe(0, 3);
        Due.due("36 bestToBribe, the next", x.bestToBribe(0), 4);
        x.bribe(0, 4);
        Due.due("36 bestToBribe, the least", x.bestToBribe(0), 1);
        x.bribe(0, 1);
        Due.due("36 bestToBribe, none is awake", x.bestToBribe(0), -1);
        x.passBeats(1);
        Due.due("36 bestToBribe at the next gate", x.bestToBribe(0), 0);
        x.passBeats(1);
        Due.due("36 isInFarm", x.isInFarm(0), true);
        Due.due("36 bestToBribe in the farm", x.bestToBribe(0), -1);
    }

    private static void promise37BribesWanted() {
        GooseCodex x = new GooseCodex();
        x.addGate(3);
        x.addGoose(0, 2);
        x.addGoose(0, 6);
        x.addGoose(0, 4);
        x.arrive(1, 18, 1);
        x.arrive(1, 17, 0);
        x.arrive(1, 10, 0);
        x.arrive(1, 9, 0);
        x.arrive(1, 4, 0);
        x.arrive(1, 3, 0);
        x.arrive(1, 0, 0);
        x.arrive(9, 6, 0);
        int[] wanted = {0, 1, 1, 2, 2, 3, 3, 1};
        for (int v = 0; v < 8; v++) {
            Due.due("37 bribesWanted(" + v + ")", x.bribesWanted(v), wanted[v]);
        }
        x.bribe(0, 1);
        int[] later = {0, 0, 0, 1, 1, 2, 2, 0};
        for (int v = 0; v < 8; v++) {
            Due.due("37 bribesWanted(" + v + "), one is calm", x.bribesWanted(v), later[v]);
        }
        x.passBeats(1);
        Due.due("37 isInFarm", x.isInFarm(0), true);
        Due.due("37 bribesWanted in the farm", x.bribesWanted(0), 0);
        GooseCodex y = new GooseCodex();
        y.addGate(0);
        for (int goose = 0; goose < 8; goose++) {
            y.addGoose(0, 1);
        }
        y.arrive(0, 0, 0);
        Due.due("37 bribesWanted, all of 8 with the least temper", y.bribesWanted(0), 8);
    }

    private static void promise38RankWanted() {
        GooseCodex x = new GooseCodex();
        x.addGate(6);
        x.addGoose(0, 4);
        x.addGoose(0, 3);
        x.arrive(9, 20, 1);
        x.arrive(0, 19, 0);
        x.arrive(0, 18, 0);
        x.arrive(0, 17, 0);
        x.arrive(0, 8, 0);
        x.arrive(0, 7, 0);
        x.arrive(9, 6, 0);
        int[] wanted = {0, 0, 1, 1, 6, 6, -1};
        for (int v = 0; v < 7; v++) {
            Due.due("38 rankWanted(" + v + ")", x.rankWanted(v), wanted[v]);
        }
        x.setRank(0, 9);
        Due.due("38 rankWanted, 9", x.rankWanted(5), 9);
        x.bribe(0, 0);
        Due.due("38 rankWanted, one is calm", x.rankWanted(5), 5);
        Due.due("38 rankWanted, one is calm, -1 before", x.rankWanted(6), 6);
        x.passBeats(1);
        Due.due("38 isInFarm", x.isInFarm(0), true);
        Due.due("38 rankWanted in the farm", x.rankWanted(0), 0);
    }

    private static void promise39FirstBar() {
        GooseCodex x = new GooseCodex();
        Due.due("39 firstBar without gates", x.firstBar(0, 0), -1);
        x.addGate(0);
        x.addGate(5);
        x.addGate(9);
        Due.due("39 firstBar without geese", x.firstBar(0, 0), -1);
        x.addGoose(1, 4);
        x.addGoose(2, 9);
        x.addGoose(2, 2);
        Due.due("39 firstBar(0, 0)", x.firstBar(0, 0), 1);
        Due.due("39 firstBar(0, 8)", x.firstBar(0, 8), 1);
        Due.due("39 firstBar(0, 9)", x.firstBar(0, 9), 2);
        Due.due("39 firstBar(5, 4)", x.firstBar(5, 4), 2);
        Due.due("39 firstBar(9, 10)", x.firstBar(9, 10), 2);
        Due.due("39 firstBar(9, 11)", x.firstBar(9, 11), -1);
        Due.due("39 firstBar(0, 20)", x.firstBar(0, 20), 2);
        Due.argument("39 firstBar(10, 0)", x, () -> x.firstBar(10, 0));
        Due.argument("39 firstBar(-1, 0)", x, () -> x.firstBar(-1, 0));
        Due.argument("39 firstBar(0, 21)", x, () -> x.firstBar(0, 21));
        Due.argument("39 firstBar(0, -1)", x, () -> x.firstBar(0, -1));
        x.lead(0, 0);
        Due.due("39 firstBar, the first gate", x.firstBar(0, 3), 0);
    }

    private static void promise40MeanTemper() {
        GooseCodex x = new GooseCodex();
        Due.due("40 meanTemper without geese", x.meanTemper(), 0.0);
        x.addGate(9);
        Due.due("40 meanTemper with a gate alone", x.meanTemper(), 0.0);
        x.addGoose(0, 4);
        Due.due("40 meanTemper of one", x.meanTemper(), 4.0);
        x.addGoose(0, 9);
        Due.due("40 meanTemper of two", x.meanTemper(), 6.5);
        x.addGoose(0, 7);
        Due.due("40 meanTemper of three", x.meanTemper(), 20.0 / 3.0);
        x.arrive(0, 0, 1);
        x.bribe(0, 1);
        Due.due("40 meanTemper, one is calm", x.meanTemper(), 19.0 / 3.0);
    }

    private static void promise41Digest() {
        GooseCodex x = new GooseCodex();
        long none = mix(1973, 0, 0, 0, 0, 0, 0, 0, -1);
        Due.due("41 digest of a new object", x.digest(), none);
        x.addGate(5);
        x.addGate(2);
        Due.due("41 digest with gates",
                x.digest(), mix(mix(1973, 0, 2, 0, 0, 0, 0, 0, 0), 5, 0, 2, 0));
        x.addGoose(1, 6);
        long geese = mix(mix(1973, 0, 2, 1, 0, 0, 0, 0, 1), 5, 0, 2, 1, 1, 6, 0, 0);
        Due.due("41 digest with a goose", x.digest(), geese);
        x.arrive(0, 5, 2);
        x.arrive(1, 5, 0);
        x.passBeats(1);
        long all = mix(1973, 1, 2, 1, 2, 0, 0, 0, 1);
        all = mix(all, 5, 0, 2, 1);
        all = mix(all, 1, 6, 0, 0);
        all = mix(all, 1, 2, 5, 0, 8, 0, 2, 0, 1, -1);
        all = mix(all, 1, 0, 5, 0, 7, 0, 1, 0, 1, -1);
        Due.due("41 digest with visitors", x.digest(), all);
        x.passBeats(1);
        long later = mix(1973, 2, 2, 1, 2, 1, 1, 0, 0);
        later = mix(later, 5, 0, 2, 0);
        later = mix(later, 1, 5, 3, 1);
        later = mix(later, 1, 1, 5, 0, 0, 1, 1, -1, 0, 0);
        later = mix(later, 2, 0, 5, 0, 0, 0, 0, -1, 0, 0);
        Due.due("41 digest in the farm", x.digest(), later);
        Due.due("41 digest again", x.digest(), later);
    }

    private static long mix(long start, long... numbers) {
        long d = start;
        for (long x : numbers) {
            d = d * 31 + x;
        }
        return d;
    }

    private static void nobodyThere() {
        GooseCodex x = new GooseCodex();
        nobody(x, 0);
        nobody(x, -1);
        x.addGate(0);
        x.arrive(0, 0, 0);
        nobody(x, 1);
        nobody(x, -1);
        nobody(x, Integer.MAX_VALUE);
        nobody(x, Integer.MIN_VALUE);
        for (int v = 1; v < 8; v++) {
            x.arrive(0, 0, 0);
        }
        nobody(x, 8);
    }

    private static void nobody(GooseCodex x, int v) {
        Due.index("33 beatsUntilIn nobody", x, () -> x.beatsUntilIn(v));
        Due.index("35 cornsWanted nobody", x, () -> x.cornsWanted(v));
        Due.index("36 bestToBribe nobody", x, () -> x.bestToBribe(v));
        Due.index("37 bribesWanted nobody", x, () -> x.bribesWanted(v));
        Due.index("38 rankWanted nobody", x, () -> x.rankWanted(v));
    }
}
