/** Promises 25 to 32: visitors. */
public final class VisitorsTest {
    public static void main(String[] args) {
        promises25To29Rows();
        promises30To32Hiss();
        promise31Grades();
        promise32Bounds();
        nobodyThere();
        Due.end();
    }

    private static void promises25To29Rows() {
        GooseCodex x = new GooseCodex();
        x.addGate(0);
        x.addGate(5);
        x.addGoose(1, 7);
        x.arrive(9, 9, 1);
        x.arrive(2, 3, 1);
        x.arrive(2, 3, 0);
        x.passBeats(1);
        tells(x, 0, 1, false, 1, 9, 0);
        tells(x, 1, 1, false, 1, 3, 0);
        tells(x, 2, 1, false, 0, 3, 0);
        Due.due("passBeats(1)", x.passBeats(1), 2);
        tells(x, 0, 2, true, 1, 9, 0);
        tells(x, 1, 1, false, 0, 3, 0);
        tells(x, 2, 2, true, 0, 3, 0);
        x.arrive(0, 0, 0);
        x.passBeats(2);
        tells(x, 1, 2, true, 0, 3, 0);
        tells(x, 3, 2, true, 0, 0, 0);
        x.arrive(0, 0, 0);
        x.passBeats(2);
        tells(x, 4, 0, false, 0, 1, 3);
        x.passBeats(1);
        tells(x, 4, 0, false, 0, 1, 2);
    }

    private static void tells(GooseCodex x, int v, int passed, boolean in, int corns, int nerve,
            int retreat) {
        String who = "visitor " + v + " at the beat " + x.beats() + ": ";
        Due.due(who + "25 passedBy", x.passedBy(v), passed);
        Due.due(who + "26 isInFarm", x.isInFarm(v), in);
        Due.due(who + "27 cornsOf", x.cornsOf(v), corns);
        Due.due(who + "28 nerveOf", x.nerveOf(v), nerve);
        Due.due(who + "29 retreatOf", x.retreatOf(v), retreat);
    }

    private static void promises30To32Hiss() {
        GooseCodex x = new GooseCodex();
        x.addGate(4);
        x.addGate(8);
        x.addGoose(0, 3);
        x.addGoose(0, 2);
        x.addGoose(1, 2);
        x.arrive(1, 11, 2);
        hears(x, 0, 11, 3, true);
        x.arrive(1, 10, 0);
        hears(x, 1, 11, 3, false);
        x.arrive(9, 5, 0);
        hears(x, 2, 5, 1, true);
        x.bribe(0, 0);
        hears(x, 0, 5, 1, true);
        x.bribe(0, 1);
        hears(x, 1, 0, 0, true);
        x.passBeats(1);
        hears(x, 0, 9, 2, true);
        hears(x, 2, 2, 1, true);
        Due.due("passBeats(1)", x.passBeats(1), 3);
        hears(x, 0, 0, 0, false);
        hears(x, 2, 0, 0, false);
        GooseCodex y = new GooseCodex();
        y.addGate(0);
        y.addGoose(0, 5);
        y.arrive(0, 4, 0);
        y.passBeats(1);
        Due.due("29 retreatOf", y.retreatOf(0), 1);
        hears(y, 0, 5, 1, true);
    }

    private static void hears(GooseCodex x, int v, int hiss, int grade, boolean dares) {
        String who = "visitor " + v + " at the beat " + x.beats() + ": ";
        Due.due(who + "30 hissAt", x.hissAt(v), hiss);
        Due.due(who + "31 gradeFor", x.gradeFor(v), grade);
        Due.due(who + "32 dares", x.dares(v), dares);
    }

    private static void promise31Grades() {
        int[] tempers = {1, 5, 6, 9, 1, 2};
        int[] ranks = {0, 0, 0, 1, 0, 0};
        int[] grades = {1, 1, 2, 2, 1, 1};
        for (int i = 0; i < grades.length; i++) {
            GooseCodex x = new GooseCodex();
            x.addGate(ranks[i]);
            x.arrive(0, 0, 0);
            Due.due("31 gradeFor 0", x.gradeFor(0), 0);
            x.addGoose(0, tempers[i]);
            Due.due("31 gradeFor " + (tempers[i] + ranks[i]), x.gradeFor(0), grades[i]);
        }
        GooseCodex y = new GooseCodex();
        y.addGate(0);
        y.arrive(0, 0, 0);
        int[] added = {9, 2, 8, 1, 1};
        int[] sums = {9, 11, 19, 20, 21};
        int[] theirs = {2, 3, 3, 3, 4};
        for (int i = 0; i < added.length; i++) {
            y.addGoose(0, added[i]);
            Due.due("31 hissAt", y.hissAt(0), sums[i]);
            Due.due("31 gradeFor " + sums[i], y.gradeFor(0), theirs[i]);
        }
    }

    private static void promise32Bounds() {
        for (int nerve = 0; nerve <= 20; nerve++) {
            GooseCodex x = new GooseCodex();
            x.addGate(9);
            x.addGoose(0, 3);
            x.arrive(0, nerve, 0);
            Due.due("32 dares, nerve " + nerve + " and hiss 12", x.dares(0), nerve >= 12);
        }
    }

    private static void nobodyThere() {
        GooseCodex x = new GooseCodex();
        nobody(x, 0);
        nobody(x, -1);
        x.addGate(0);
        nobody(x, 0);
        x.arrive(0, 0, 0);
        nobody(x, 1);
        nobody(x, -1);
        nobody(x, Integer.MAX_VALUE);
        nobody(x, Integer.MIN_VALUE);
        for (int v = 1; v < 8; v++) {
            x.arrive(0, 0, 0);
        }
        nobody(x, 8);
        Due.due("25 passedBy(7)", x.passedBy(7), 0);
    }

    private static void nobody(GooseCodex x, int v) {
        Due.index("25 passedBy nobody", x, () -> x.passedBy(v));
        Due.index("26 isInFarm nobody", x, () -> x.isInFarm(v));
        Due.index("27 cornsOf nobody", x, () -> x.cornsOf(v));
        Due.index("28 nerveOf nobody", x, () -> x.nerveOf(v));
        Due.index("29 retreatOf nobody", x, () -> x.retreatOf(v));
        Due.index("30 hissAt nobody", x, () -> x.hissAt(v));
        Due.index("31 gradeFor nobody", x, () -> x.gradeFor(v));
        Due.index("32 dares nobody", x, () -> x.dares(v));
    }
}
