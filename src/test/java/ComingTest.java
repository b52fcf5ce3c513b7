/** Promises 1 to 9: gates, geese and visitors come. */
public final class ComingTest {
    public static void main(String[] args) {
        promise1NewObject();
        promise2AddGate();
        promise3AddGoose();
        promise4Arrive();
        promise5SetRank();
        promise6Lead();
        promise7GiveCorns();
        promise8Bribe();
        promise8BribeRefused();
        promise9PassBeats();
        Due.end();
    }

    private static void promise1NewObject() {
        GooseCodex x = new GooseCodex();
        Due.due("1 gates", x.gates(), 0);
        Due.due("1 geese", x.geese(), 0);
        Due.due("1 visitors", x.visitors(), 0);
        Due.due("1 beats", x.beats(), 0);
        Due.due("1 inFarm", x.inFarm(), 0);
        Due.due("1 bribes", x.bribes(), 0);
        Due.due("1 retreats", x.retreats(), 0);
        GooseCodex other = new GooseCodex();
        other.addGate(3);
        Due.due("1 gates of one object with another", x.gates(), 0);
    }

    private static void promise2AddGate() {
        GooseCodex x = new GooseCodex();
        Due.argument("2 addGate(-1)", x, () -> x.addGate(-1));
        Due.argument("2 addGate(10)", x, () -> x.addGate(10));
        Due.argument("2 addGate(least int)", x, () -> x.addGate(Integer.MIN_VALUE));
        Due.argument("2 addGate(greatest int)", x, () -> x.addGate(Integer.MAX_VALUE));
        int[] ranks = {0, 9, 4, 4, 1, 7};
        for (int gate = 0; gate < 6; gate++) {
            Due.due("2 addGate", x.addGate(ranks[gate]), gate);
            Due.due("2 gates", x.gates(), gate + 1);
        }
        for (int gate = 0; gate < 6; gate++) {
            Due.due("2 rankOf", x.rankOf(gate), ranks[gate]);
        }
        Due.state("2 a gate too many", x, () -> x.addGate(0));
        Due.argument("2 a gate too many with a wrong rank", x, () -> x.addGate(10));
        GooseCodex y = new GooseCodex();
        y.addGate(2);
        y.arrive(0, 0, 0);
        Due.state("2 addGate behind a visitor", y, () -> y.addGate(2));
        Due.argument("2 addGate(-1) behind a visitor", y, () -> y.addGate(-1));
        y.passBeats(1);
        Due.state("2 addGate with the visitor in the farm", y, () -> y.addGate(2));
    }

    private static void promise3AddGoose() {
        GooseCodex x = new GooseCodex();
        Due.index("3 addGoose without gates", x, () -> x.addGoose(0, 4));
        x.addGate(3);
        x.addGate(5);
        Due.index("3 addGoose(2, 4)", x, () -> x.addGoose(2, 4));
        Due.index("3 addGoose(-1, 4)", x, () -> x.addGoose(-1, 4));
        Due.index("3 addGoose(2, 0)", x, () -> x.addGoose(2, 0));
        Due.index("3 addGoose(least, 4)", x, () -> x.addGoose(Integer.MIN_VALUE, 4));
        Due.argument("3 addGoose(0, 0)", x, () -> x.addGoose(0, 0));
        Due.argument("3 addGoose(0, 10)", x, () -> x.addGoose(0, 10));
        Due.argument("3 addGoose(0, -1)", x, () -> x.addGoose(0, -1));
        int[] tempers = {1, 9, 5, 2, 3, 4, 8, 7};
        for (int goose = 0; goose < 8; goose++) {
            Due.due("3 addGoose", x.addGoose(goose % 2, tempers[goose]), goose);
            Due.due("3 geese", x.geese(), goose + 1);
        }
        for (int goose = 0; goose < 8; goose++) {
            Due.due("3 gateOf", x.gateOf(goose), goose % 2);
            Due.due("3 temperOf", x.temperOf(goose), tempers[goose]);
            Due.due("3 calmFor", x.calmFor(goose), 0);
            Due.due("3 eatenBy", x.eatenBy(goose), 0);
        }
        Due.state("3 a goose too many", x, () -> x.addGoose(1, 4));
        Due.argument("3 a goose too many with a wrong temper", x, () -> x.addGoose(1, 10));
        Due.index("3 a goose too many at no gate", x, () -> x.addGoose(2, 10));
        GooseCodex y = new GooseCodex();
        y.addGate(2);
        y.arrive(0, 0, 0);
        Due.due("3 addGoose behind a visitor", y.addGoose(0, 4), 0);
    }

    private static void promise4Arrive() {
        GooseCodex x = new GooseCodex();
        Due.state("4 arrive without gates", x, () -> x.arrive(1, 1, 1));
        Due.argument("4 arrive(10, 1, 1) without gates", x, () -> x.arrive(10, 1, 1));
        x.addGate(3);
        Due.argument("4 arrive(10, 0, 0)", x, () -> x.arrive(10, 0, 0));
        Due.argument("4 arrive(-1, 0, 0)", x, () -> x.arrive(-1, 0, 0));
        Due.argument("4 arrive(0, 21, 0)", x, () -> x.arrive(0, 21, 0));
        Due.argument("4 arrive(0, -1, 0)", x, () -> x.arrive(0, -1, 0));
        Due.argument("4 arrive(0, 0, 21)", x, () -> x.arrive(0, 0, 21));
        Due.argument("4 arrive(0, 0, -1)", x, () -> x.arrive(0, 0, -1));
        x.addGoose(0, 1);
        int[] ranks = {0, 9, 3, 2, 1, 0, 5, 4};
        int[] nerves = {20, 0, 7, 8, 9, 10, 11, 12};
        int[] corns = {0, 20, 3, 4, 5, 6, 7, 8};
        int[] hisses = {4, 1, 1, 2, 3, 4, 1, 1};
        for (int v = 0; v < 8; v++) {
            Due.due("4 arrive", x.arrive(ranks[v], nerves[v], corns[v]), v);
            Due.due("4 visitors", x.visitors(), v + 1);
        }
        for (int v = 0; v < 8; v++) {
            Due.due("4 hissAt, by the rank", x.hissAt(v), hisses[v]);
            Due.due("4 nerveOf", x.nerveOf(v), nerves[v]);
            Due.due("4 cornsOf", x.cornsOf(v), corns[v]);
            Due.due("4 passedBy", x.passedBy(v), 0);
            Due.due("4 retreatOf", x.retreatOf(v), 0);
            Due.due("4 isInFarm", x.isInFarm(v), false);
        }
        Due.state("4 a visitor too many", x, () -> x.arrive(0, 0, 0));
        Due.argument("4 a visitor too many with a wrong nerve", x, () -> x.arrive(0, 21, 0));
        x.passBeats(9);
        Due.state("4 a visitor too many, with some in the farm", x, () -> x.arrive(0, 0, 0));
    }

    private static void promise5SetRank() {
        GooseCodex x = new GooseCodex();
        Due.index("5 setRank without gates", x, () -> x.setRank(0, 3));
        x.addGate(3);
        x.addGate(8);
        x.addGoose(0, 2);
        x.arrive(1, 4, 0);
        Due.index("5 setRank(2, 3)", x, () -> x.setRank(2, 3));
        Due.index("5 setRank(-1, 3)", x, () -> x.setRank(-1, 3));
        Due.index("5 setRank(2, 10)", x, () -> x.setRank(2, 10));
        Due.argument("5 setRank(0, -1)", x, () -> x.setRank(0, -1));
        Due.argument("5 setRank(0, 10)", x, () -> x.setRank(0, 10));
        Due.due("5 setRank(0, 9)", x.setRank(0, 9), 3);
        Due.due("5 rankOf(0)", x.rankOf(0), 9);
        Due.due("5 rankOf(1)", x.rankOf(1), 8);
        Due.due("5 hissAt(0)", x.hissAt(0), 10);
        Due.due("5 setRank(0, 0)", x.setRank(0, 0), 9);
        Due.due("5 hissAt(0) with a rank above the gate's", x.hissAt(0), 2);
        Due.due("5 setRank(1, 8)", x.setRank(1, 8), 8);
    }

    private static void promise6Lead() {
        GooseCodex x = new GooseCodex();
        x.addGate(3);
        x.addGate(8);
        Due.index("6 lead without geese", x, () -> x.lead(0, 0));
        x.addGoose(0, 6);
        x.arrive(0, 0, 5);
        Due.index("6 lead(1, 0)", x, () -> x.lead(1, 0));
        Due.index("6 lead(-1, 0)", x, () -> x.lead(-1, 0));
        Due.index("6 lead(0, 2)", x, () -> x.lead(0, 2));
        Due.index("6 lead(0, -1)", x, () -> x.lead(0, -1));
        x.bribe(0, 0);
        Due.due("6 lead(0, 1)", x.lead(0, 1), 0);
        Due.due("6 gateOf", x.gateOf(0), 1);
        Due.due("6 calmFor", x.calmFor(0), 3);
        Due.due("6 temperOf", x.temperOf(0), 5);
        Due.due("6 lead to where it is", x.lead(0, 1), 1);
        Due.due("6 lead(0, 0)", x.lead(0, 0), 1);
    }

    private static void promise7GiveCorns() {
        GooseCodex x = new GooseCodex();
        Due.index("7 giveCorns without visitors", x, () -> x.giveCorns(0, 1));
        x.addGate(3);
        x.arrive(0, 0, 0);
        x.arrive(0, 0, 15);
        Due.index("7 giveCorns(2, 1)", x, () -> x.giveCorns(2, 1));
        Due.index("7 giveCorns(-1, 1)", x, () -> x.giveCorns(-1, 1));
        Due.index("7 giveCorns(2, 0)", x, () -> x.giveCorns(2, 0));
        Due.argument("7 giveCorns(0, 0)", x, () -> x.giveCorns(0, 0));
        Due.argument("7 giveCorns(0, 21)", x, () -> x.giveCorns(0, 21));
        Due.argument("7 giveCorns(0, greatest)", x, () -> x.giveCorns(0, Integer.MAX_VALUE));
        Due.due("7 giveCorns(0, 1)", x.giveCorns(0, 1), 1);
        Due.due("7 giveCorns(0, 3)", x.giveCorns(0, 3), 4);
        Due.due("7 cornsOf(0)", x.cornsOf(0), 4);
        Due.due("7 cornsOf(1)", x.cornsOf(1), 15);
        Due.due("7 giveCorns(1, 4)", x.giveCorns(1, 4), 19);
        Due.due("7 giveCorns(1, 20)", x.giveCorns(1, 20), 20);
        Due.due("7 cornsOf(1), full", x.cornsOf(1), 20);
        x.passBeats(1);
        Due.due("7 giveCorns in the farm", x.giveCorns(0, 2), 6);
    }

    private static void promise8Bribe() {
        GooseCodex x = new GooseCodex();
        x.addGate(3);
        x.addGate(3);
        x.addGoose(0, 3);
        x.addGoose(1, 9);
        x.arrive(0, 0, 4);
        Due.due("8 bribe", x.bribe(0, 0), 2);
        Due.due("8 cornsOf", x.cornsOf(0), 3);
        Due.due("8 temperOf", x.temperOf(0), 2);
        Due.due("8 calmFor", x.calmFor(0), 3);
        Due.due("8 eatenBy", x.eatenBy(0), 1);
        Due.due("8 eatenBy another", x.eatenBy(1), 0);
        Due.due("8 bribes", x.bribes(), 1);
        Due.due("8 beats", x.beats(), 0);
        Due.due("8 bribe a calm goose", x.bribe(0, 0), 1);
        Due.due("8 calm is for 3, not 6", x.calmFor(0), 3);
        Due.due("8 bribe at the least temper", x.bribe(0, 0), 1);
        Due.due("8 eatenBy in all", x.eatenBy(0), 3);
        Due.due("8 bribes in all", x.bribes(), 3);
        Due.due("8 cornsOf in the end", x.cornsOf(0), 1);
        bribeWhileRetreating();
    }

    private static void bribeWhileRetreating() {
        GooseCodex x = new GooseCodex();
        x.addGate(9);
        x.addGoose(0, 9);
        x.arrive(0, 0, 0);
        x.passBeats(1);
        Due.due("8 retreatOf", x.retreatOf(0), 3);
        x.giveCorns(0, 1);
        Due.due("8 bribe in retreat", x.bribe(0, 0), 8);
        Due.due("8 who retreats goes on", x.retreatOf(0), 3);
        x.passBeats(1);
        Due.due("8 who retreats does so for a beat less", x.retreatOf(0), 2);
        Due.due("8 and nothing else", x.passedBy(0), 0);
    }

    private static void promise8BribeRefused() {
        GooseCodex x = new GooseCodex();
        Due.index("8 bribe in a new object", x, () -> x.bribe(0, 0));
        x.addGate(3);
        x.addGate(3);
        x.addGoose(0, 3);
        x.addGoose(1, 9);
        x.arrive(0, 10, 0);
        Due.index("8 bribe(1, 0)", x, () -> x.bribe(1, 0));
        Due.index("8 bribe(0, 2)", x, () -> x.bribe(0, 2));
        Due.index("8 bribe(-1, 0)", x, () -> x.bribe(-1, 0));
        Due.index("8 bribe(0, -1)", x, () -> x.bribe(0, -1));
        Due.state("8 bribe without corn", x, () -> x.bribe(0, 0));
        x.giveCorns(0, 9);
        Due.state("8 bribe at another gate", x, () -> x.bribe(0, 1));
        x.passBeats(1);
        Due.due("8 passedBy", x.passedBy(0), 1);
        Due.state("8 bribe at the gate behind", x, () -> x.bribe(0, 0));
        Due.due("8 bribe at the next gate", x.bribe(0, 1), 8);
        x.passBeats(1);
        Due.due("8 isInFarm", x.isInFarm(0), true);
        Due.state("8 bribe from the farm", x, () -> x.bribe(0, 1));
        Due.index("8 bribe nobody from the farm", x, () -> x.bribe(0, 2));
    }

    private static void promise9PassBeats() {
        GooseCodex x = new GooseCodex();
        Due.argument("9 passBeats(0)", x, () -> x.passBeats(0));
        Due.argument("9 passBeats(61)", x, () -> x.passBeats(61));
        Due.argument("9 passBeats(-1)", x, () -> x.passBeats(-1));
        Due.argument("9 passBeats(least)", x, () -> x.passBeats(Integer.MIN_VALUE));
        Due.due("9 passBeats(60) with nobody", x.passBeats(60), 0);
        Due.due("9 beats", x.beats(), 60);
        x.addGate(0);
        x.addGate(0);
        x.arrive(0, 0, 0);
        x.arrive(0, 0, 0);
        Due.due("9 passBeats(1), up to the second gate", x.passBeats(1), 0);
        x.arrive(0, 0, 0);
        Due.due("9 passBeats(1), two come in", x.passBeats(1), 2);
        Due.due("9 passBeats(1), one more comes in", x.passBeats(1), 1);
        Due.due("9 passBeats(1), nobody is left", x.passBeats(1), 0);
        Due.due("9 beats in the end", x.beats(), 64);
    }
}
