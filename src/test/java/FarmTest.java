/** Promises 10 to 16: the farm. */
public final class FarmTest {
    public static void main(String[] args) {
        promise10Beats();
        promises11To13Counts();
        promise14InFarm();
        promise15Bribes();
        promise16Retreats();
        Due.end();
    }

    private static void promise10Beats() {
        GooseCodex x = new GooseCodex();
        x.passBeats(1);
        Due.due("10 beats", x.beats(), 1);
        x.addGate(9);
        x.addGoose(0, 9);
        x.arrive(0, 0, 0);
        x.passBeats(60);
        Due.due("10 beats, all of them", x.beats(), 61);
        x.beatsUntilIn(0);
        x.cornsWanted(0);
        x.inFarmAfter(60);
        x.digest();
        Due.due("10 beats behind questions", x.beats(), 61);
    }

    private static void promises11To13Counts() {
        GooseCodex x = new GooseCodex();
        x.addGate(1);
        x.addGate(2);
        x.addGoose(0, 1);
        x.addGoose(0, 1);
        x.addGoose(1, 1);
        x.arrive(0, 20, 0);
        Due.due("11 gates", x.gates(), 2);
        Due.due("12 geese", x.geese(), 3);
        Due.due("13 visitors", x.visitors(), 1);
        Due.argument("11 to 13 addGate(10)", x, () -> x.addGate(10));
        Due.argument("11 to 13 addGoose(0, 0)", x, () -> x.addGoose(0, 0));
        Due.argument("11 to 13 arrive(10, 0, 0)", x, () -> x.arrive(10, 0, 0));
        x.passBeats(2);
        Due.due("13 visitors, who is in counts too", x.visitors(), 1);
        Due.due("11 gates, later", x.gates(), 2);
        Due.due("12 geese, later", x.geese(), 3);
    }

    private static void promise14InFarm() {
        GooseCodex x = new GooseCodex();
        Due.due("14 inFarm without gates", x.inFarm(), 0);
        x.addGate(0);
        x.addGate(9);
        x.addGoose(1, 9);
        x.arrive(9, 9, 0);
        x.arrive(0, 0, 0);
        x.arrive(9, 9, 0);
        Due.due("14 inFarm at first", x.inFarm(), 0);
        x.passBeats(1);
        Due.due("14 inFarm ahead of the last gate", x.inFarm(), 0);
        x.passBeats(1);
        Due.due("14 inFarm", x.inFarm(), 2);
        Due.due("14 who is not", x.isInFarm(1), false);
        x.passBeats(1);
        Due.due("14 inFarm, they stay", x.inFarm(), 2);
    }

    private static void promise15Bribes() {
        GooseCodex x = new GooseCodex();
        x.addGate(9);
        x.addGoose(0, 9);
        x.addGoose(0, 9);
        x.arrive(0, 0, 3);
        x.bribe(0, 0);
        Due.due("15 bribes by hand", x.bribes(), 1);
        x.passBeats(1);
        Due.due("15 bribes in a beat", x.bribes(), 2);
        x.inFarmAfter(3);
        Due.due("15 bribes behind a question", x.bribes(), 2);
        x.passBeats(1);
        Due.due("15 bribes, none is wanted", x.bribes(), 2);
        Due.state("15 a bribe refused", x, () -> x.bribe(0, 0));
        Due.due("15 bribes in the end", x.bribes(), 2);
    }

    private static void promise16Retreats() {
        GooseCodex x = new GooseCodex();
        x.addGate(9);
        x.addGoose(0, 9);
        x.arrive(0, 0, 0);
        x.arrive(0, 0, 1);
        x.passBeats(1);
        Due.due("16 retreats", x.retreats(), 1);
        x.passBeats(3);
        Due.due("16 retreats, one goes on", x.retreats(), 1);
        x.inFarmAfter(60);
        Due.due("16 retreats behind a question", x.retreats(), 1);
        x.passBeats(1);
        Due.due("16 retreats, one begins again", x.retreats(), 2);
    }
}
