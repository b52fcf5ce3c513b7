import java.util.ArrayList;
import java.util.List;

/** The document once more, written as it is read, by objects and without care for speed. */
final class Model {
    static final class Goose {
        int gate;
        int temper;
        int calm;
        int eaten;
    }

    static final class Visitor {
        int rank;
        int nerve;
        int corns;
        int passed;
        int retreat;
    }

    final List<Integer> gates = new ArrayList<>();
    final List<Goose> geese = new ArrayList<>();
    final List<Visitor> visitors = new ArrayList<>();
    int beats;
    int bribes;
    int retreats;

    Model copy() {
        Model other = new Model();
        other.gates.addAll(gates);
        for (Goose g : geese) {
            Goose h = new Goose();
            h.gate = g.gate;
            h.temper = g.temper;
            h.calm = g.calm;
            h.eaten = g.eaten;
            other.geese.add(h);
        }
        for (Visitor v : visitors) {
            Visitor w = new Visitor();
            w.rank = v.rank;
            w.nerve = v.nerve;
            w.corns = v.corns;
            w.passed = v.passed;
            w.retreat = v.retreat;
            other.visitors.add(w);
        }
        other.beats = beats;
        other.bribes = bribes;
        other.retreats = retreats;
        return other;
    }

    // ---- gates, geese and visitors come

    int addGate(int rank) {
        argument(rank >= 0 && rank <= 9);
        state(gates.size() < 6 && visitors.isEmpty());
        gates.add(rank);
        return gates.size() - 1;
    }

    int addGoose(int gate, int temper) {
        gate(gate);
        argument(temper >= 1 && temper <= 9);
        state(geese.size() < 8);
        Goose g = new Goose();
        g.gate = gate;
        g.temper = temper;
        geese.add(g);
        return geese.size() - 1;
    }

    int arrive(int rank, int nerve, int corns) {
        argument(rank >= 0 && rank <= 9);
        argument(nerve >= 0 && nerve <= 20);
        argument(corns >= 0 && corns <= 20);
        state(!gates.isEmpty() && visitors.size() < 8);
        Visitor v = new Visitor();
        v.rank = rank;
        v.nerve = nerve;
        v.corns = corns;
        visitors.add(v);
        return visitors.size() - 1;
    }

    int setRank(int gate, int rank) {
        gate(gate);
        argument(rank >= 0 && rank <= 9);
        return gates.set(gate, rank);
    }

    int lead(int goose, int gate) {
        Goose g = goose(goose);
        gate(gate);
        int before = g.gate;
        g.gate = gate;
        return before;
    }

    int giveCorns(int visitor, int corns) {
        Visitor v = visitor(visitor);
        argument(corns >= 1 && corns <= 20);
        v.corns = v.corns + corns > 20 ? 20 : v.corns + corns;
        return v.corns;
    }

    int bribe(int visitor, int goose) {
        Visitor v = visitor(visitor);
        Goose g = goose(goose);
        state(v.corns > 0);
        state(!in(v));
        state(g.gate == v.passed);
        pay(v, g);
        return g.temper;
    }

    int passBeats(int n) {
        argument(n >= 1 && n <= 60);
        int before = inFarm();
        for (int i = 0; i < n; i++) {
            beat();
        }
        return inFarm() - before;
    }

    private void pay(Visitor v, Goose g) {
        v.corns -= 1;
        g.eaten += 1;
        g.calm = 3;
        g.temper = g.temper == 1 ? 1 : g.temper - 1;
        bribes += 1;
    }

    private void beat() {
        for (Goose g : geese) {
            if (g.calm != 0) {
                g.calm -= 1;
            }
        }
        for (Visitor v : visitors) {
            if (in(v)) {
                continue;
            }
            if (v.retreat != 0) {
                v.retreat -= 1;
                continue;
            }
            int hiss = hiss(v.passed, v.rank);
            List<Goose> awake = awake(v.passed);
            if (hiss <= v.nerve) {
                v.passed += 1;
                for (Goose g : awake) {
                    g.temper = g.temper == 9 ? 9 : g.temper + 1;
                }
            } else if (v.corns >= 1) {
                Goose fiercest = awake.get(0);
                for (Goose g : awake) {
                    if (g.temper > fiercest.temper) {
                        fiercest = g;
                    }
                }
                pay(v, fiercest);
            } else {
                v.retreat = grade(hiss);
                v.nerve = v.nerve == 20 ? 20 : v.nerve + 1;
                v.passed = v.passed == 0 ? 0 : v.passed - 1;
                retreats += 1;
            }
        }
        beats += 1;
    }

    // ---- the farm, gates, geese and visitors

    int inFarm() {
        int n = 0;
        for (Visitor v : visitors) {
            n += in(v) ? 1 : 0;
        }
        return n;
    }

    boolean in(Visitor v) {
        return v.passed == gates.size();
    }

    List<Goose> awake(int gate) {
        List<Goose> all = new ArrayList<>();
        for (Goose g : geese) {
            if (g.gate == gate && g.calm == 0) {
                all.add(g);
            }
        }
        return all;
    }

    int hiss(int gate, int rank) {
        int sum = 0;
        for (Goose g : awake(gate)) {
            sum += g.temper;
            if (gates.get(gate) > rank) {
                sum += gates.get(gate) - rank;
            }
        }
        return sum;
    }

    static int grade(int hiss) {
        return hiss == 0 ? 0 : hiss <= 5 ? 1 : hiss <= 10 ? 2 : hiss <= 20 ? 3 : 4;
    }

    int rankOf(int gate) {
        gate(gate);
        return gates.get(gate);
    }

    int awakeAt(int gate) {
        gate(gate);
        return awake(gate).size();
    }

    int hissOf(int gate, int rank) {
        gate(gate);
        argument(rank >= 0 && rank <= 9);
        return hiss(gate, rank);
    }

    int loudestGate() {
        int best = gates.size() - 1;
        for (int gate = gates.size() - 1; gate >= 0; gate--) {
            best = hiss(gate, 0) >= hiss(best, 0) ? gate : best;
        }
        return best;
    }

    int hissAt(int visitor) {
        Visitor v = visitor(visitor);
        return in(v) ? 0 : hiss(v.passed, v.rank);
    }

    boolean dares(int visitor) {
        Visitor v = visitor(visitor);
        return !in(v) && hiss(v.passed, v.rank) <= v.nerve;
    }

    // ---- what would be

    int beatsUntilIn(int visitor) {
        visitor(visitor);
        Model m = copy();
        for (int n = 0; n <= 60; n++) {
            if (m.in(m.visitors.get(visitor))) {
                return n;
            }
            m.beat();
        }
        return -1;
    }

    int inFarmAfter(int n) {
        argument(n >= 1 && n <= 60);
        Model m = copy();
        m.passBeats(n);
        return m.inFarm();
    }

    int cornsWanted(int visitor) {
        visitor(visitor);
        for (int corns = 0; corns <= 20; corns++) {
            Model m = copy();
            m.visitors.get(visitor).corns = corns;
            m.passBeats(40);
            if (m.in(m.visitors.get(visitor))) {
                return corns;
            }
        }
        return -1;
    }

    int bestToBribe(int visitor) {
        Visitor v = visitor(visitor);
        int best = -1;
        int least = Integer.MAX_VALUE;
        for (int i = 0; i < geese.size(); i++) {
            Goose g = geese.get(i);
            if (!in(v) && g.gate == v.passed && g.calm == 0) {
                g.calm = 1;
                if (hissAt(visitor) < least) {
                    least = hissAt(visitor);
                    best = i;
                }
                g.calm = 0;
            }
        }
        return best;
    }

    int bribesWanted(int visitor) {
        Visitor v = visitor(visitor);
        if (in(v)) {
            return 0;
        }
        List<Goose> awake = awake(v.passed);
        int fewest = awake.size();
        for (int set = 0; set < 1 << awake.size(); set++) {
            for (int i = 0; i < awake.size(); i++) {
                awake.get(i).calm = set >> i & 1;
            }
            if (hiss(v.passed, v.rank) <= v.nerve) {
                fewest = Math.min(fewest, Integer.bitCount(set));
            }
        }
        for (Goose g : awake) {
            g.calm = 0;
        }
        return fewest;
    }

    int rankWanted(int visitor) {
        Visitor v = visitor(visitor);
        if (in(v)) {
            return 0;
        }
        for (int rank = 0; rank <= 9; rank++) {
            if (hiss(v.passed, rank) <= v.nerve) {
                return rank;
            }
        }
        return -1;
    }

    int firstBar(int rank, int nerve) {
        argument(rank >= 0 && rank <= 9);
        argument(nerve >= 0 && nerve <= 20);
        for (int gate = 0; gate < gates.size(); gate++) {
            if (hiss(gate, rank) > nerve) {
                return gate;
            }
        }
        return -1;
    }

    double meanTemper() {
        double sum = 0;
        for (Goose g : geese) {
            sum += g.temper;
        }
        return geese.isEmpty() ? 0 : sum / geese.size();
    }

    long digest() {
        List<Integer> all = new ArrayList<>(List.of(beats, gates.size(), geese.size(),
                visitors.size(), inFarm(), bribes, retreats, loudestGate()));
        for (int gate = 0; gate < gates.size(); gate++) {
            all.addAll(List.of(rankOf(gate), awakeAt(gate)));
        }
        for (Goose g : geese) {
            all.addAll(List.of(g.gate, g.temper, g.calm, g.eaten));
        }
        for (int i = 0; i < visitors.size(); i++) {
            Visitor v = visitors.get(i);
            all.addAll(List.of(v.passed, v.corns, v.nerve, v.retreat, hissAt(i), dares(i) ? 1 : 0,
                    beatsUntilIn(i), bestToBribe(i), bribesWanted(i), rankWanted(i)));
        }
        long d = 1973;
        for (int x : all) {
            d = d * 31 + x;
        }
        return d;
    }

    // ---- what the calls demand

    void gate(int gate) {
        index(gate >= 0 && gate < gates.size());
    }

    Goose goose(int goose) {
        index(goose >= 0 && goose < geese.size());
        return geese.get(goose);
    }

    Visitor visitor(int visitor) {
        index(visitor >= 0 && visitor < visitors.size());
        return visitors.get(visitor);
    }

    private static void index(boolean there) {
        if (!there) {
            throw new IndexOutOfBoundsException();
        }
    }

    private static void argument(boolean fits) {
        if (!fits) {
            throw new IllegalArgumentException();
        }
    }

    private static void state(boolean allows) {
        if (!allows) {
            throw new IllegalStateException();
        }
    }
}
