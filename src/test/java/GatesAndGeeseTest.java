/** Promises 17 to 24: gates and geese. */
public final class GatesAndGeeseTest {
    public static void main(String[] args) {
        promise17RankOf();
        promise18AwakeAt();
        promise19HissOf();
        promise20LoudestGate();
        promises21To24Geese();
        Due.end();
    }

    private static void promise17RankOf() {
        GooseCodex x = new GooseCodex();
        Due.index("17 rankOf(0) without gates", x, () -> x.rankOf(0));
        x.addGate(7);
        x.addGate(0);
        Due.due("17 rankOf(0)", x.rankOf(0), 7);
        Due.due("17 rankOf(1)", x.rankOf(1), 0);
        Due.index("17 rankOf(2)", x, () -> x.rankOf(2));
        Due.index("17 rankOf(-1)", x, () -> x.rankOf(-1));
        Due.index("17 rankOf(greatest)", x, () -> x.rankOf(Integer.MAX_VALUE));
        GooseCodex full = full();
        Due.due("17 rankOf(5)", full.rankOf(5), 9);
        Due.index("17 rankOf(6)", full, () -> full.rankOf(6));
    }

    private static void promise18AwakeAt() {
        GooseCodex x = new GooseCodex();
        Due.index("18 awakeAt(0) without gates", x, () -> x.awakeAt(0));
        x.addGate(9);
        x.addGate(9);
        Due.due("18 awakeAt without geese", x.awakeAt(0), 0);
        x.addGoose(0, 9);
        x.addGoose(1, 9);
        x.addGoose(1, 9);
        x.arrive(9, 0, 2);
        Due.due("18 awakeAt(0)", x.awakeAt(0), 1);
        Due.due("18 awakeAt(1)", x.awakeAt(1), 2);
        x.bribe(0, 0);
        Due.due("18 awakeAt(0), one is calm", x.awakeAt(0), 0);
        x.lead(1, 0);
        Due.due("18 awakeAt(0), one is led there", x.awakeAt(0), 1);
        Due.due("18 awakeAt(1), one is led away", x.awakeAt(1), 1);
        Due.index("18 awakeAt(2)", x, () -> x.awakeAt(2));
        Due.index("18 awakeAt(-1)", x, () -> x.awakeAt(-1));
        GooseCodex full = full();
        Due.due("18 awakeAt(5)", full.awakeAt(5), 3);
        Due.index("18 awakeAt(6)", full, () -> full.awakeAt(6));
    }

    private static void promise19HissOf() {
        GooseCodex x = new GooseCodex();
        Due.index("19 hissOf(0, 0) without gates", x, () -> x.hissOf(0, 0));
        x.addGate(4);
        x.addGate(9);
        Due.due("19 hissOf without geese", x.hissOf(0, 0), 0);
        x.addGoose(0, 3);
        x.addGoose(0, 5);
        x.addGoose(1, 9);
        Due.due("19 hissOf(0, 0)", x.hissOf(0, 0), 16);
        Due.due("19 hissOf(0, 3)", x.hissOf(0, 3), 10);
        Due.due("19 hissOf(0, 4), the same rank", x.hissOf(0, 4), 8);
        Due.due("19 hissOf(0, 5), a greater rank", x.hissOf(0, 5), 8);
        Due.due("19 hissOf(0, 9)", x.hissOf(0, 9), 8);
        Due.due("19 hissOf(1, 0)", x.hissOf(1, 0), 18);
        x.arrive(0, 0, 1);
        x.bribe(0, 1);
        Due.due("19 hissOf(0, 0), one is calm", x.hissOf(0, 0), 7);
        Due.index("19 hissOf(2, 0)", x, () -> x.hissOf(2, 0));
        Due.index("19 hissOf(-1, 0)", x, () -> x.hissOf(-1, 0));
        Due.index("19 hissOf(2, 10)", x, () -> x.hissOf(2, 10));
        Due.argument("19 hissOf(0, 10)", x, () -> x.hissOf(0, 10));
        Due.argument("19 hissOf(0, -1)", x, () -> x.hissOf(0, -1));
        GooseCodex full = full();
        Due.due("19 hissOf(5, 0)", full.hissOf(5, 0), 54);
        Due.index("19 hissOf(6, 0)", full, () -> full.hissOf(6, 0));
    }

    private static void promise20LoudestGate() {
        GooseCodex x = new GooseCodex();
        Due.due("20 loudestGate without gates", x.loudestGate(), -1);
        x.addGate(4);
        x.addGate(6);
        x.addGate(5);
        x.addGate(2);
        Due.due("20 loudestGate without geese", x.loudestGate(), 0);
        x.addGoose(1, 2);
        Due.due("20 loudestGate", x.loudestGate(), 1);
        x.addGoose(2, 3);
        Due.due("20 loudestGate, of two the smallest number", x.loudestGate(), 1);
        x.addGoose(3, 7);
        Due.due("20 loudestGate, the last", x.loudestGate(), 3);
        x.setRank(3, 1);
        Due.due("20 loudestGate, at the rank 0", x.loudestGate(), 1);
        x.setRank(2, 9);
        Due.due("20 loudestGate, with another rank", x.loudestGate(), 2);
        GooseCodex y = new GooseCodex();
        y.addGate(0);
        y.addGate(1);
        y.addGoose(0, 5);
        y.addGoose(1, 5);
        Due.due("20 loudestGate, louder at the rank 0 alone", y.loudestGate(), 1);
        GooseCodex z = new GooseCodex();
        z.addGate(0);
        z.addGate(0);
        z.addGoose(0, 3);
        z.addGoose(0, 3);
        z.addGoose(1, 7);
        Due.due("20 loudestGate, one goose louder than two", z.loudestGate(), 1);
    }

    private static void promises21To24Geese() {
        GooseCodex x = new GooseCodex();
        x.addGate(9);
        x.addGate(9);
        noGoose(x, 0);
        noGoose(x, -1);
        x.addGoose(0, 7);
        x.addGoose(1, 5);
        noGoose(x, 2);
        noGoose(x, -1);
        noGoose(x, Integer.MIN_VALUE);
        x.arrive(0, 1, 3);
        x.passBeats(1);
        Due.due("21 gateOf(0)", x.gateOf(0), 0);
        Due.due("21 gateOf(1)", x.gateOf(1), 1);
        Due.due("22 temperOf(0)", x.temperOf(0), 6);
        Due.due("22 temperOf(1)", x.temperOf(1), 5);
        Due.due("23 calmFor(0)", x.calmFor(0), 3);
        Due.due("23 calmFor(1)", x.calmFor(1), 0);
        Due.due("24 eatenBy(0)", x.eatenBy(0), 1);
        Due.due("24 eatenBy(1)", x.eatenBy(1), 0);
        x.bribe(0, 0);
        Due.due("22 temperOf(0), bribed by hand", x.temperOf(0), 5);
        Due.due("24 eatenBy(0), bribed by hand", x.eatenBy(0), 2);
        x.passBeats(2);
        Due.due("23 calmFor(0), two beats on", x.calmFor(0), 1);
        Due.due("24 eatenBy(1), bribed in a beat", x.eatenBy(1), 1);
        x.lead(0, 1);
        Due.due("21 gateOf(0), led", x.gateOf(0), 1);
        GooseCodex full = full();
        Due.due("21 gateOf(7)", full.gateOf(7), 5);
        noGoose(full, 8);
    }

    private static void noGoose(GooseCodex x, int goose) {
        Due.index("21 gateOf no goose", x, () -> x.gateOf(goose));
        Due.index("22 temperOf no goose", x, () -> x.temperOf(goose));
        Due.index("23 calmFor no goose", x, () -> x.calmFor(goose));
        Due.index("24 eatenBy no goose", x, () -> x.eatenBy(goose));
    }

    /** Six gates and eight geese, as many as there may be. */
    private static GooseCodex full() {
        GooseCodex x = new GooseCodex();
        for (int gate = 0; gate < 6; gate++) {
            x.addGate(4 + gate);
        }
        for (int goose = 0; goose < 8; goose++) {
            x.addGoose(goose < 5 ? goose : 5, 9);
        }
        return x;
    }
}
