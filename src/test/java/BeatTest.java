/** How a beat goes, as the Terms tell it. */
public final class BeatTest {
    public static void main(String[] args) {
        calmGeeseWake();
        goingThroughEnrages();
        theFirstWakesThemForTheNext();
        theFiercestIsBribed();
        retreatFallsBackAGate();
        gradesOfRetreat();
        nerveEndsAtTwenty();
        cornGoesBeforeRetreat();
        theFullestCodex();
        Due.end();
    }

    private static void calmGeeseWake() {
        GooseCodex x = codex(9, 9);
        x.addGoose(0, 9);
        x.arrive(0, 0, 1);
        x.bribe(0, 0);
        int[] calm = {3, 2, 1, 0, 0};
        for (int beat = 0; beat < calm.length; beat++) {
            Due.due("calmFor after " + beat, x.calmFor(0), calm[beat]);
            x.passBeats(1);
        }
        // Geese wake before the visitors act, so who would dare now does not in the next beat.
        GooseCodex y = codex(0, 9);
        y.arrive(0, 0, 1);
        y.bribe(0, 0);
        y.passBeats(2);
        y.arrive(0, 0, 0);
        Due.due("calmFor a last beat", y.calmFor(0), 1);
        Due.due("dares as it is now", y.dares(1), true);
        Due.due("does not come in", y.passBeats(1), 0);
        Due.due("but retreats", y.retreatOf(1), 2);
    }

    private static void goingThroughEnrages() {
        GooseCodex x = codex(0, 8);
        x.addGate(0);
        x.addGoose(0, 3);
        x.addGoose(0, 4);
        x.addGoose(1, 4);
        x.arrive(0, 20, 1);
        x.bribe(0, 2);
        x.passBeats(1);
        Due.due("went through", x.passedBy(0), 1);
        Due.due("an awake one there", x.temperOf(0), 9);
        Due.due("another awake one there", x.temperOf(1), 4);
        Due.due("a calm one there", x.temperOf(2), 3);
        Due.due("one at the next gate", x.temperOf(3), 4);
        x.arrive(0, 20, 0);
        x.passBeats(1);
        Due.due("at most 9", x.temperOf(0), 9);
        Due.due("one more each time", x.temperOf(1), 5);
        Due.due("at the next gate by now", x.temperOf(3), 5);
        Due.due("bribes in beats of daring", x.bribes(), 1);
        Due.due("retreats in beats of daring", x.retreats(), 0);
    }

    private static void theFirstWakesThemForTheNext() {
        GooseCodex x = codex(0, 4);
        x.arrive(0, 4, 0);
        x.arrive(0, 4, 0);
        Due.due("passBeats(1)", x.passBeats(1), 1);
        Due.due("the first is in", x.isInFarm(0), true);
        Due.due("the second is not", x.isInFarm(1), false);
        Due.due("the second retreats", x.retreatOf(1), 1);
        Due.due("the second has more nerve", x.nerveOf(1), 5);
        x.passBeats(1);
        Due.due("the retreat ends", x.retreatOf(1), 0);
        Due.due("and nothing else comes of it", x.isInFarm(1), false);
        Due.due("the second comes in behind it", x.passBeats(1), 1);
    }

    private static void theFiercestIsBribed() {
        GooseCodex x = codex(0, 6);
        x.addGate(0);
        x.addGoose(0, 8);
        x.addGoose(0, 8);
        x.addGoose(1, 9);
        x.arrive(0, 5, 3);
        x.passBeats(1);
        Due.due("the smallest number of the fiercest", x.calmFor(1), 3);
        Due.due("its temper", x.temperOf(1), 7);
        Due.due("what it ate", x.eatenBy(1), 1);
        Due.due("the visitor stays", x.passedBy(0), 0);
        Due.due("without a retreat", x.retreatOf(0), 0);
        Due.due("nor more nerve", x.nerveOf(0), 5);
        Due.due("a corn less", x.cornsOf(0), 2);
        Due.due("the other at this gate", x.calmFor(2), 0);
        Due.due("the fiercer at the next gate", x.calmFor(3), 0);
        x.passBeats(1);
        Due.due("then the next fiercest", x.calmFor(2), 3);
        Due.due("the first by then", x.calmFor(1), 2);
        x.passBeats(1);
        Due.due("then the last", x.calmFor(0), 3);
        Due.due("bribes", x.bribes(), 3);
        x.passBeats(1);
        Due.due("who is awake again", x.calmFor(1), 0);
        Due.due("no corn: a retreat", x.retreatOf(0), 2);
    }

    private static void retreatFallsBackAGate() {
        GooseCodex x = new GooseCodex();
        x.addGate(0);
        x.addGate(0);
        x.addGate(0);
        x.addGoose(2, 4);
        x.arrive(0, 3, 0);
        x.passBeats(2);
        Due.due("at the last gate", x.passedBy(0), 2);
        x.passBeats(1);
        Due.due("back at the one ahead", x.passedBy(0), 1);
        Due.due("for as many beats as the grade", x.retreatOf(0), 1);
        Due.due("with more nerve", x.nerveOf(0), 4);
        Due.due("began to retreat once", x.retreats(), 1);
        x.passBeats(1);
        Due.due("still there", x.passedBy(0), 1);
        Due.due("retreats no longer", x.retreatOf(0), 0);
        Due.due("hiss there", x.hissAt(0), 0);
        x.passBeats(1);
        Due.due("through it again", x.passedBy(0), 2);
        Due.due("and then in", x.passBeats(1), 1);
        GooseCodex y = codex(0, 4);
        y.arrive(0, 3, 0);
        y.passBeats(1);
        Due.due("no gate ahead of the first", y.passedBy(0), 0);
    }

    private static void gradesOfRetreat() {
        int[] ranks = {0, 1, 2, 6, 7, 9};
        int[] tempers = {4, 4, 4, 4, 4, 9};
        int[] retreats = {1, 1, 2, 2, 3, 3};
        for (int i = 0; i < ranks.length; i++) {
            GooseCodex x = codex(ranks[i], tempers[i]);
            x.arrive(0, 0, 0);
            x.passBeats(1);
            Due.due("retreat from " + (ranks[i] + tempers[i]), x.retreatOf(0), retreats[i]);
        }
        GooseCodex x = codex(9, 3);
        x.addGoose(0, 1);
        x.arrive(1, 17, 0);
        x.passBeats(1);
        Due.due("retreat from 20", x.retreatOf(0), 3);
        GooseCodex y = codex(9, 3);
        y.addGoose(0, 2);
        y.arrive(1, 17, 0);
        y.passBeats(1);
        Due.due("retreat from 21", y.retreatOf(0), 4);
    }

    private static void nerveEndsAtTwenty() {
        GooseCodex x = codex(9, 9);
        x.addGoose(0, 9);
        x.arrive(0, 19, 0);
        x.passBeats(1);
        Due.due("nerve from 19", x.nerveOf(0), 20);
        x.passBeats(5);
        Due.due("nerve at most 20", x.nerveOf(0), 20);
        Due.due("retreats again all the same", x.retreats(), 2);
    }

    private static void cornGoesBeforeRetreat() {
        GooseCodex x = codex(0, 9);
        x.arrive(0, 0, 1);
        x.arrive(0, 0, 0);
        Due.due("the bribe of the first lets the second in", x.passBeats(1), 1);
        Due.due("the second is in", x.isInFarm(1), true);
        Due.due("the first is not", x.isInFarm(0), false);
        Due.due("the goose is not enraged when calm", x.temperOf(0), 8);
        Due.due("the first comes in then", x.passBeats(1), 1);
    }

    /** Six gates, eight geese and eight visitors, all of whom bribe at the first gate. */
    private static void theFullestCodex() {
        GooseCodex x = new GooseCodex();
        for (int gate = 0; gate < 6; gate++) {
            x.addGate(9);
        }
        for (int goose = 0; goose < 8; goose++) {
            x.addGoose(0, 9);
        }
        for (int visitor = 0; visitor < 8; visitor++) {
            x.arrive(0, 0, 20);
        }
        Due.due("hiss at the last", x.hissAt(7), 144);
        x.passBeats(1);
        for (int goose = 0; goose < 8; goose++) {
            Due.due("calmFor " + goose, x.calmFor(goose), 3);
            Due.due("temperOf " + goose, x.temperOf(goose), 8);
        }
        x.passBeats(1);
        for (int visitor = 0; visitor < 8; visitor++) {
            Due.due("passedBy " + visitor, x.passedBy(visitor), 1);
        }
        Due.due("nobody is in ahead of the sixth", x.passBeats(4), 0);
        Due.due("all come in", x.passBeats(1), 8);
        Due.due("bribes", x.bribes(), 8);
        Due.due("retreats", x.retreats(), 0);
    }

    /** One gate with one goose. */
    private static GooseCodex codex(int rank, int temper) {
        GooseCodex x = new GooseCodex();
        x.addGate(rank);
        x.addGoose(0, temper);
        return x;
    }
}
