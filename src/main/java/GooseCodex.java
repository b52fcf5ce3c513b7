/**
 * A codex of goose etiquette.
 *
 * <p>Visitors come to a row of gates, geese keep the gates and hiss at who comes, and behind the
 * last gate is the farm.
 */
public final class GooseCodex {
    private static final int MOST_GATES = 6;
    private static final int MOST_GEESE = 8;
    private static final int MOST_VISITORS = 8;
    private static final int MOST_RANK = 9;
    private static final int LEAST_TEMPER = 1;
    private static final int MOST_TEMPER = 9;
    private static final int MOST_NERVE = 20;
    private static final int MOST_CORNS = 20;
    private static final int CALM_BEATS = 3;
    private static final int MOST_BEATS = 60;
    private static final int BEATS_FOR_CORNS = 40;
    private static final int NONE = -1;
    private static final long DIGEST_START = 1973L;
    private static final long DIGEST_FACTOR = 31L;

    private final Farm now = new Farm();

    // What would be is tried out here, so that asking changes nothing and makes no objects.
    private final Farm trial = new Farm();

    public GooseCodex() {
    }

    // ---- gates, geese and visitors come

    public int addGate(int rank) throws IllegalArgumentException, IllegalStateException {
        demandArgument(isRank(rank));
        demandState(now.gateCount < MOST_GATES && now.guests.count == 0);
        return now.putGate(rank);
    }

    public int addGoose(int gate, int temper)
            throws IndexOutOfBoundsException, IllegalArgumentException, IllegalStateException {
        demandIndex(now.hasGate(gate));
        demandArgument(isWithin(temper, LEAST_TEMPER, MOST_TEMPER));
        demandState(now.flock.count < MOST_GEESE);
        return now.flock.putGoose(gate, temper);
    }

    public int arrive(int rank, int nerve, int corns)
            throws IllegalArgumentException, IllegalStateException {
        demandArgument(isRank(rank) && isNerve(nerve) && isWithin(corns, 0, MOST_CORNS));
        demandState(now.gateCount > 0 && now.guests.count < MOST_VISITORS);
        return now.guests.putGuest(rank, nerve, corns);
    }

    public int setRank(int gate, int rank)
            throws IndexOutOfBoundsException, IllegalArgumentException {
        demandIndex(now.hasGate(gate));
        demandArgument(isRank(rank));
        int before = now.ranks[gate];
        now.ranks[gate] = rank;
        return before;
    }

    public int lead(int goose, int gate) throws IndexOutOfBoundsException {
        demandIndex(now.flock.hasGoose(goose) && now.hasGate(gate));
        int before = now.flock.gate[goose];
        now.flock.gate[goose] = gate;
        return before;
    }

    public int giveCorns(int visitor, int corns)
            throws IndexOutOfBoundsException, IllegalArgumentException {
        demandVisitor(visitor);
        demandArgument(isWithin(corns, 1, MOST_CORNS));
        int sum = Math.min(MOST_CORNS, now.guests.corns[visitor] + corns);
        now.guests.corns[visitor] = sum;
        return sum;
    }

    public int bribe(int visitor, int goose)
            throws IndexOutOfBoundsException, IllegalStateException {
        demandVisitor(visitor);
        demandGoose(goose);
        // In the farm a visitor's gate number is one that no goose keeps, but the document names
        // the farm of its own, so it is asked of its own.
        demandState(now.guests.corns[visitor] > 0
                && !now.isBehindAll(visitor)
                && now.flock.gate[goose] == now.guests.passed[visitor]);
        now.payGoose(visitor, goose);
        return now.flock.temper[goose];
    }

    public int passBeats(int beats) throws IllegalArgumentException {
        demandArgument(isBeats(beats));
        int before = now.countInside();
        now.runBeats(beats);
        return now.countInside() - before;
    }

    // ---- the farm

    public int beats() {
        return now.beat;
    }

    public int gates() {
        return now.gateCount;
    }

    public int geese() {
        return now.flock.count;
    }

    public int visitors() {
        return now.guests.count;
    }

    public int inFarm() {
        return now.countInside();
    }

    public int bribes() {
        return now.bribeCount;
    }

    public int retreats() {
        return now.retreatCount;
    }

    // ---- gates and geese

    public int rankOf(int gate) throws IndexOutOfBoundsException {
        demandIndex(now.hasGate(gate));
        return now.ranks[gate];
    }

    public int awakeAt(int gate) throws IndexOutOfBoundsException {
        demandIndex(now.hasGate(gate));
        return now.flock.countAwake(gate);
    }

    public int hissOf(int gate, int rank)
            throws IndexOutOfBoundsException, IllegalArgumentException {
        demandIndex(now.hasGate(gate));
        demandArgument(isRank(rank));
        return now.gateHiss(gate, rank);
    }

    public int loudestGate() {
        int loudest = NONE;
        int most = -1;
        for (int gate = 0; gate < now.gateCount; gate++) {
            int hiss = now.gateHiss(gate, 0);
            if (hiss > most) {
                most = hiss;
                loudest = gate;
            }
        }
        return loudest;
    }

    public int gateOf(int goose) throws IndexOutOfBoundsException {
        demandGoose(goose);
        return now.flock.gate[goose];
    }

    public int temperOf(int goose) throws IndexOutOfBoundsException {
        demandGoose(goose);
        return now.flock.temper[goose];
    }

    public int calmFor(int goose) throws IndexOutOfBoundsException {
        demandGoose(goose);
        return now.flock.calm[goose];
    }

    public int eatenBy(int goose) throws IndexOutOfBoundsException {
        demandGoose(goose);
        return now.flock.eaten[goose];
    }

    // ---- visitors

    public int passedBy(int visitor) throws IndexOutOfBoundsException {
        demandVisitor(visitor);
        return now.guests.passed[visitor];
    }

    public boolean isInFarm(int visitor) throws IndexOutOfBoundsException {
        demandVisitor(visitor);
        return now.isBehindAll(visitor);
    }

    public int cornsOf(int visitor) throws IndexOutOfBoundsException {
        demandVisitor(visitor);
        return now.guests.corns[visitor];
    }

    public int nerveOf(int visitor) throws IndexOutOfBoundsException {
        demandVisitor(visitor);
        return now.guests.nerve[visitor];
    }

    public int retreatOf(int visitor) throws IndexOutOfBoundsException {
        demandVisitor(visitor);
        return now.guests.retreat[visitor];
    }

    public int hissAt(int visitor) throws IndexOutOfBoundsException {
        demandVisitor(visitor);
        return now.guestHiss(visitor);
    }

    public int gradeFor(int visitor) throws IndexOutOfBoundsException {
        demandVisitor(visitor);
        return gradeOfHiss(now.guestHiss(visitor));
    }

    public boolean dares(int visitor) throws IndexOutOfBoundsException {
        demandVisitor(visitor);
        return !now.isBehindAll(visitor)
                && now.guestHiss(visitor) <= now.guests.nerve[visitor];
    }

    // ---- what would be

    public int beatsUntilIn(int visitor) throws IndexOutOfBoundsException {
        demandVisitor(visitor);
        trial.copyFrom(now);
        return trial.beatsToFarm(visitor, MOST_BEATS);
    }

    public int inFarmAfter(int beats) throws IllegalArgumentException {
        demandArgument(isBeats(beats));
        trial.copyFrom(now);
        trial.runBeats(beats);
        return trial.countInside();
    }

    public int cornsWanted(int visitor) throws IndexOutOfBoundsException {
        demandVisitor(visitor);
        // More corns can do worse, since who bribes gets no nerve: each number is tried.
        for (int corns = 0; corns <= MOST_CORNS; corns++) {
            trial.copyFrom(now);
            trial.guests.corns[visitor] = corns;
            if (trial.beatsToFarm(visitor, BEATS_FOR_CORNS) != NONE) {
                return corns;
            }
        }
        return NONE;
    }

    public int bestToBribe(int visitor) throws IndexOutOfBoundsException {
        demandVisitor(visitor);
        // No goose keeps the gate number of who is in the farm. All geese of a gate add the same
        // for the rank, so the hiss is the least without the one with the greatest temper.
        return now.flock.fiercestAwake(now.guests.passed[visitor]);
    }

    public int bribesWanted(int visitor) throws IndexOutOfBoundsException {
        demandVisitor(visitor);
        return now.fewestToCalm(visitor);
    }

    public int rankWanted(int visitor) throws IndexOutOfBoundsException {
        demandVisitor(visitor);
        int gate = now.guests.passed[visitor];
        for (int rank = 0; rank <= MOST_RANK; rank++) {
            if (now.gateHiss(gate, rank) <= now.guests.nerve[visitor]) {
                return rank;
            }
        }
        return NONE;
    }

    public int firstBar(int rank, int nerve) throws IllegalArgumentException {
        demandArgument(isRank(rank) && isNerve(nerve));
        for (int gate = 0; gate < now.gateCount; gate++) {
            if (now.gateHiss(gate, rank) > nerve) {
                return gate;
            }
        }
        return NONE;
    }

    public double meanTemper() {
        int count = now.flock.count;
        if (count == 0) {
            return 0.0;
        }
        return (double) now.flock.sumOfTempers() / (double) count;
    }

    public long digest() {
        long d = DIGEST_START;
        d = mix(d, beats());
        d = mix(d, gates());
        d = mix(d, geese());
        d = mix(d, visitors());
        d = mix(d, inFarm());
        d = mix(d, bribes());
        d = mix(d, retreats());
        d = mix(d, loudestGate());
        d = mixGates(d);
        d = mixGeese(d);
        // The visitors are told here, not in a helper, since what would be asks for deep calls.
        for (int visitor = 0; visitor < now.guests.count; visitor++) {
            d = mix(d, passedBy(visitor));
            d = mix(d, cornsOf(visitor));
            d = mix(d, nerveOf(visitor));
            d = mix(d, retreatOf(visitor));
            d = mix(d, hissAt(visitor));
            d = mix(d, dares(visitor) ? 1 : 0);
            d = mix(d, beatsUntilIn(visitor));
            d = mix(d, bestToBribe(visitor));
            d = mix(d, bribesWanted(visitor));
            d = mix(d, rankWanted(visitor));
        }
        return d;
    }

    private long mixGates(long start) {
        long d = start;
        for (int gate = 0; gate < now.gateCount; gate++) {
            d = mix(d, rankOf(gate));
            d = mix(d, awakeAt(gate));
        }
        return d;
    }

    private long mixGeese(long start) {
        long d = start;
        for (int goose = 0; goose < now.flock.count; goose++) {
            d = mix(d, gateOf(goose));
            d = mix(d, temperOf(goose));
            d = mix(d, calmFor(goose));
            d = mix(d, eatenBy(goose));
        }
        return d;
    }

    private static long mix(long d, long x) {
        return d * DIGEST_FACTOR + x;
    }

    private static int gradeOfHiss(int hiss) {
        if (hiss <= 0) {
            return 0;
        }
        if (hiss <= 5) {
            return 1;
        }
        if (hiss <= 10) {
            return 2;
        }
        return hiss <= 20 ? 3 : 4;
    }

    private static boolean isWithin(int number, int least, int most) {
        return number >= least && number <= most;
    }

    private static boolean isRank(int rank) {
        return isWithin(rank, 0, MOST_RANK);
    }

    private static boolean isNerve(int nerve) {
        return isWithin(nerve, 0, MOST_NERVE);
    }

    private static boolean isBeats(int beats) {
        return isWithin(beats, 1, MOST_BEATS);
    }

    private void demandGoose(int goose) throws IndexOutOfBoundsException {
        demandIndex(now.flock.hasGoose(goose));
    }

    private void demandVisitor(int visitor) throws IndexOutOfBoundsException {
        demandIndex(now.guests.hasGuest(visitor));
    }

    private static void demandIndex(boolean there) throws IndexOutOfBoundsException {
        if (!there) {
            throw new IndexOutOfBoundsException("there is no such gate, goose or visitor");
        }
    }

    private static void demandArgument(boolean fits) throws IllegalArgumentException {
        if (!fits) {
            throw new IllegalArgumentException("a number is outside its bounds");
        }
    }

    private static void demandState(boolean allows) throws IllegalStateException {
        if (!allows) {
            throw new IllegalStateException("this can't be done as all is now");
        }
    }

    /** Geese, by number: what each one keeps, and how it feels. */
    private static final class Flock {
        int count;
        final int[] gate = new int[MOST_GEESE];
        final int[] temper = new int[MOST_GEESE];
        final int[] calm = new int[MOST_GEESE];
        final int[] eaten = new int[MOST_GEESE];

        boolean hasGoose(int goose) {
            return goose >= 0 && goose < count;
        }

        int putGoose(int itsGate, int itsTemper) {
            int goose = count;
            gate[goose] = itsGate;
            temper[goose] = itsTemper;
            count++;
            return goose;
        }

        boolean isAwakeThere(int goose, int there) {
            return gate[goose] == there && calm[goose] == 0;
        }

        int countAwake(int there) {
            int awake = 0;
            for (int goose = 0; goose < count; goose++) {
                if (isAwakeThere(goose, there)) {
                    awake++;
                }
            }
            return awake;
        }

        /** The hiss of the geese there, if each one adds this much to its temper. */
        int hissThere(int there, int extra) {
            int hiss = 0;
            for (int goose = 0; goose < count; goose++) {
                if (isAwakeThere(goose, there)) {
                    hiss += temper[goose] + extra;
                }
            }
            return hiss;
        }

        int fiercestAwake(int there) {
            int fiercest = NONE;
            int most = 0;
            for (int goose = 0; goose < count; goose++) {
                if (isAwakeThere(goose, there) && temper[goose] > most) {
                    most = temper[goose];
                    fiercest = goose;
                }
            }
            return fiercest;
        }

        void feed(int goose) {
            eaten[goose]++;
            calm[goose] = CALM_BEATS;
            temper[goose] = Math.max(LEAST_TEMPER, temper[goose] - 1);
        }

        void enrage(int there) {
            for (int goose = 0; goose < count; goose++) {
                if (isAwakeThere(goose, there)) {
                    temper[goose] = Math.min(MOST_TEMPER, temper[goose] + 1);
                }
            }
        }

        void wakeByABeat() {
            for (int goose = 0; goose < count; goose++) {
                if (calm[goose] > 0) {
                    calm[goose]--;
                }
            }
        }

        int sumOfTempers() {
            int sum = 0;
            for (int goose = 0; goose < count; goose++) {
                sum += temper[goose];
            }
            return sum;
        }

        void copyFrom(Flock other) {
            count = other.count;
            System.arraycopy(other.gate, 0, gate, 0, MOST_GEESE);
            System.arraycopy(other.temper, 0, temper, 0, MOST_GEESE);
            System.arraycopy(other.calm, 0, calm, 0, MOST_GEESE);
            System.arraycopy(other.eaten, 0, eaten, 0, MOST_GEESE);
        }
    }

    /** Visitors, by number: who each one is, and how far this one came. */
    private static final class Guests {
        int count;
        final int[] rank = new int[MOST_VISITORS];
        final int[] nerve = new int[MOST_VISITORS];
        final int[] corns = new int[MOST_VISITORS];
        final int[] passed = new int[MOST_VISITORS];
        final int[] retreat = new int[MOST_VISITORS];

        boolean hasGuest(int guest) {
            return guest >= 0 && guest < count;
        }

        int putGuest(int theRank, int theNerve, int theCorns) {
            int guest = count;
            rank[guest] = theRank;
            nerve[guest] = theNerve;
            corns[guest] = theCorns;
            count++;
            return guest;
        }

        void fallBack(int guest, int beats) {
            retreat[guest] = beats;
            nerve[guest] = Math.min(MOST_NERVE, nerve[guest] + 1);
            if (passed[guest] > 0) {
                passed[guest]--;
            }
        }

        void copyFrom(Guests other) {
            count = other.count;
            System.arraycopy(other.rank, 0, rank, 0, MOST_VISITORS);
            System.arraycopy(other.nerve, 0, nerve, 0, MOST_VISITORS);
            System.arraycopy(other.corns, 0, corns, 0, MOST_VISITORS);
            System.arraycopy(other.passed, 0, passed, 0, MOST_VISITORS);
            System.arraycopy(other.retreat, 0, retreat, 0, MOST_VISITORS);
        }
    }

    /** All that is at one beat, and how a beat goes. */
    private static final class Farm {
        int gateCount;
        final int[] ranks = new int[MOST_GATES];
        final Flock flock = new Flock();
        final Guests guests = new Guests();
        int beat;
        int bribeCount;
        int retreatCount;

        boolean hasGate(int gate) {
            return gate >= 0 && gate < gateCount;
        }

        int putGate(int rank) {
            int gate = gateCount;
            ranks[gate] = rank;
            gateCount++;
            return gate;
        }

        /** By how much the gate wants a higher rank than this one; 0 where no gate is. */
        int rankLack(int gate, int rank) {
            return hasGate(gate) ? Math.max(0, ranks[gate] - rank) : 0;
        }

        int gateHiss(int gate, int rank) {
            return flock.hissThere(gate, rankLack(gate, rank));
        }

        int guestHiss(int guest) {
            return gateHiss(guests.passed[guest], guests.rank[guest]);
        }

        boolean isBehindAll(int guest) {
            return guests.passed[guest] >= gateCount;
        }

        int countInside() {
            int inside = 0;
            for (int guest = 0; guest < guests.count; guest++) {
                if (isBehindAll(guest)) {
                    inside++;
                }
            }
            return inside;
        }

        void payGoose(int guest, int goose) {
            guests.corns[guest]--;
            flock.feed(goose);
            bribeCount++;
        }

        int fewestToCalm(int guest) {
            int gate = guests.passed[guest];
            int extra = rankLack(gate, guests.rank[guest]);
            int hiss = guestHiss(guest);
            int calmed = 0;
            // The fiercest are calmed first, since each of them takes the most off the hiss.
            for (int temper = MOST_TEMPER; temper >= LEAST_TEMPER; temper--) {
                for (int goose = 0; goose < flock.count; goose++) {
                    if (hiss > guests.nerve[guest]
                            && flock.temper[goose] == temper
                            && flock.isAwakeThere(goose, gate)) {
                        hiss -= temper + extra;
                        calmed++;
                    }
                }
            }
            return calmed;
        }

        void runBeats(int beats) {
            for (int i = 0; i < beats; i++) {
                runBeat();
            }
        }

        void runBeat() {
            flock.wakeByABeat();
            for (int guest = 0; guest < guests.count; guest++) {
                if (!isBehindAll(guest)) {
                    moveGuest(guest);
                }
            }
            beat++;
        }

        void moveGuest(int guest) {
            if (guests.retreat[guest] > 0) {
                guests.retreat[guest]--;
                return;
            }
            int gate = guests.passed[guest];
            int hiss = gateHiss(gate, guests.rank[guest]);
            if (hiss <= guests.nerve[guest]) {
                guests.passed[guest] = gate + 1;
                flock.enrage(gate);
                return;
            }
            int goose = flock.fiercestAwake(gate);
            if (guests.corns[guest] > 0 && flock.hasGoose(goose)) {
                payGoose(guest, goose);
            } else {
                guests.fallBack(guest, gradeOfHiss(hiss));
                retreatCount++;
            }
        }

        /** Runs beats until the visitor is in the farm; how many, or NONE if the most don't do. */
        int beatsToFarm(int guest, int most) {
            int waited = 0;
            while (waited < most && !isBehindAll(guest)) {
                runBeat();
                waited++;
            }
            return isBehindAll(guest) ? waited : NONE;
        }

        void copyFrom(Farm other) {
            gateCount = other.gateCount;
            System.arraycopy(other.ranks, 0, ranks, 0, MOST_GATES);
            flock.copyFrom(other.flock);
            guests.copyFrom(other.guests);
            beat = other.beat;
            bribeCount = other.bribeCount;
            retreatCount = other.retreatCount;
        }
    }
}
