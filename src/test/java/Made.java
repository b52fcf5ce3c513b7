import java.util.Arrays;

/** Codices to begin a test with. */
final class Made {
    private Made() {
    }

    static GooseCodex withGates(int... ranks) {
        GooseCodex x = new GooseCodex();
        for (int rank : ranks) {
            x.addGate(rank);
        }
        return x;
    }

    /** One gate, and geese that keep it. */
    static GooseCodex guarded(int rank, int... tempers) {
        GooseCodex x = withGates(rank);
        for (int temper : tempers) {
            x.addGoose(0, temper);
        }
        return x;
    }

    /** One gate of the rank 0 that hisses just so, up to 72, at everyone. */
    static GooseCodex hissing(int hiss) {
        GooseCodex x = withGates(0);
        for (int left = hiss; left > 0; left -= 9) {
            x.addGoose(0, Math.min(9, left));
        }
        return x;
    }

    /** One gate, without geese, and as many visitors without corn. */
    static GooseCodex visited(int visitors) {
        GooseCodex x = withGates(0);
        for (int visitor = 0; visitor < visitors; visitor++) {
            x.arrive(0, 0, 0);
        }
        return x;
    }

    /** The same number, so many times. */
    static int[] alike(int times, int number) {
        int[] all = new int[times];
        Arrays.fill(all, number);
        return all;
    }

    /** Six gates, eight geese and eight visitors, who have a corn, as many as there may be. */
    static GooseCodex fullest() {
        GooseCodex x = withGates(9, 8, 7, 6, 5, 4);
        for (int goose = 0; goose < 8; goose++) {
            x.addGoose(Math.min(goose, 5), goose + 1);
        }
        for (int visitor = 0; visitor < 8; visitor++) {
            x.arrive(visitor, visitor, 1);
        }
        return x;
    }
}
