/** Guesses about a loop that are struck out until the rest holds. */
public final class HoundlightProofs {
    private static final int NONE = -1;
    private static final int VARIABLES = 3;
    private static final int FIRST_BOUND = 2;
    private static final int MOST_BOUND = 3;
    private static final int MOST_STATES = 343;
    private static final int MOST_BRANCHES = 8;
    private static final int MOST_GUESSES = 40;
    private static final int MOST_COEFFICIENT = 2;
    private static final int MOST_OF_GUARD = 20;
    private static final int MOST_OF_UPDATE = 5;
    private static final int MOST_OF_GUESS = 9;
    private static final int MOST_SEED = 198;
    private static final int MOST_TURNS = 60;

    /** Three coefficients and one number more stand in a row, branch by branch. */
    private static final int ROW = 4;

    /** A step changes one number by -6 to 6: these are 13 changes. */
    private static final int MOST_CHANGE = 2 * MOST_BOUND;
    private static final int CHANGES = 2 * MOST_CHANGE + 1;

    private static final int AT_MOST = 0;
    private static final int AT_LEAST = 1;
    private static final int DIFFERENCE = 2;
    private static final int SUM = 3;
    private static final int REST_BY_TWO = 4;
    private static final int REST_BY_THREE = 5;
    private static final int FOLLOWS = 6;

    private static final int BY_RUN = 0;
    private static final int BY_START = 1;
    private static final int BY_STEP = 2;

    private static final int OF_GUESS = 10;
    private static final int OF_STATE = 7;
    private static final int OF_GOAL = 5;
    private static final int OF_LOOP = 16;

    private final Loop loop;
    private final Guesses guesses;
    private boolean sifted;
    private int sifts;
    private int refused;

    public HoundlightProofs() {
        loop = new Loop();
        guesses = new Guesses();
        sifted = false;
        sifts = 0;
        refused = 0;
    }

    // ---- the loop

    public int begin(int bound, int first, int second, int third) throws IllegalArgumentException {
        if (!isIn(bound, 1, MOST_BOUND)) {
            throw new IllegalArgumentException("bound is not 1 to 3");
        }
        if (!areUpTo(bound, first, second, third)) {
            throw new IllegalArgumentException("a number of START is not -bound to bound");
        }
        loop.layOut(bound, first, second, third);
        guesses.standAgain(loop);
        sifted = false;
        return loop.start;
    }

    public int branch(int variable) throws IndexOutOfBoundsException, IllegalStateException {
        if (!isIn(variable, 0, VARIABLES - 1)) {
            throw new IndexOutOfBoundsException("no such VARIABLE");
        }
        if (loop.branches >= MOST_BRANCHES) {
            throw new IllegalStateException("there are 8 BRANCHES");
        }
        sifted = false;
        return loop.addBranch(variable);
    }

    public int guard(int branch, int first, int second, int third, int c)
            throws IndexOutOfBoundsException, IllegalArgumentException {
        if (!isBranch(branch)) {
            throw new IndexOutOfBoundsException("no such BRANCH");
        }
        if (!areUpTo(MOST_COEFFICIENT, first, second, third)) {
            throw new IllegalArgumentException("a COEFFICIENT is not -2 to 2");
        }
        if (!isIn(c, -MOST_OF_GUARD, MOST_OF_GUARD)) {
            throw new IllegalArgumentException("c is not -20 to 20");
        }
        Loop.put(loop.guards, branch, first, second, third, c);
        loop.redraw(branch);
        sifted = false;
        return loop.opennessOf(branch);
    }

    public int update(int branch, int first, int second, int third, int e)
            throws IndexOutOfBoundsException, IllegalArgumentException {
        if (!isBranch(branch)) {
            throw new IndexOutOfBoundsException("no such BRANCH");
        }
        if (!areUpTo(MOST_COEFFICIENT, first, second, third)) {
            throw new IllegalArgumentException("a COEFFICIENT is not -2 to 2");
        }
        if (!isIn(e, -MOST_OF_UPDATE, MOST_OF_UPDATE)) {
            throw new IllegalArgumentException("e is not -5 to 5");
        }
        Loop.put(loop.updates, branch, first, second, third, e);
        loop.redraw(branch);
        sifted = false;
        return loop.changesBy(branch);
    }

    // ---- guesses, runs, sifting

    public int guess(int kind, int i, int j, int c) throws IllegalArgumentException, IllegalStateException {
        if (!isIn(kind, AT_MOST, FOLLOWS)) {
            throw new IllegalArgumentException("kind is not 0 to 6");
        }
        if (!isIn(c, -MOST_OF_GUESS, MOST_OF_GUESS)) {
            throw new IllegalArgumentException("c is not -9 to 9");
        }
        if (!guesses.canTell(kind, i) || !guesses.canTell(kind, j)) {
            throw new IllegalArgumentException("i or j names nothing for this KIND");
        }
        if (guesses.count >= MOST_GUESSES) {
            throw new IllegalStateException("there are 40 GUESSES");
        }
        sifted = false;
        return guesses.add(loop, kind, i, j, c);
    }

    public int learn(int seed, int turns) throws IllegalArgumentException {
        if (!isRun(seed, turns)) {
            throw new IllegalArgumentException("seed is not 0 to 198, or turns not 1 to 60");
        }
        int before = guesses.count;
        int steps = loop.walk(seed, turns);
        for (int variable = 0; variable < VARIABLES; variable++) {
            learnOne(AT_MOST, variable, variable, steps);
            learnOne(AT_LEAST, variable, variable, steps);
        }
        learnOne(DIFFERENCE, 0, 1, steps);
        learnOne(DIFFERENCE, 0, 2, steps);
        learnOne(DIFFERENCE, 1, 2, steps);
        sifted = false;
        return guesses.count - before;
    }

    public int run(int seed, int turns) throws IllegalArgumentException {
        if (!isRun(seed, turns)) {
            throw new IllegalArgumentException("seed is not 0 to 198, or turns not 1 to 60");
        }
        int before = Long.bitCount(guesses.standing);
        int steps = loop.walk(seed, turns);
        for (int at = 0; at <= steps; at++) {
            int state = loop.path[at];
            guesses.strike(guesses.missing(guesses.standing, state), BY_RUN, state, NONE, 0);
        }
        sifted = false;
        return before - Long.bitCount(guesses.standing);
    }

    public int sift() {
        int rounds = Sieve.strikeAll(loop, guesses);
        sifted = true;
        sifts++;
        return rounds;
    }

    public int call() {
        refused++;
        return refused;
    }

    // ---- what is asked

    public int ofGuess(int guess, int what) throws IndexOutOfBoundsException, IllegalArgumentException {
        if (!isGuess(guess)) {
            throw new IndexOutOfBoundsException("no such GUESS");
        }
        if (!isIn(what, 0, OF_GUESS - 1)) {
            throw new IllegalArgumentException("what is not 0 to 9");
        }
        return guesses.tell(loop, guess, what);
    }

    public boolean holds(int guess, int state) throws IndexOutOfBoundsException {
        if (!isGuess(guess)) {
            throw new IndexOutOfBoundsException("no such GUESS");
        }
        if (!isState(state)) {
            throw new IndexOutOfBoundsException("no such STATE");
        }
        return guesses.isHeld(guess, state);
    }

    public int step(int branch, int state) throws IndexOutOfBoundsException {
        if (!isBranch(branch)) {
            throw new IndexOutOfBoundsException("no such BRANCH");
        }
        if (!isState(state)) {
            throw new IndexOutOfBoundsException("no such STATE");
        }
        return loop.targetOf(branch, state);
    }

    public int ofState(int state, int what) throws IndexOutOfBoundsException, IllegalArgumentException {
        if (!isState(state)) {
            throw new IndexOutOfBoundsException("no such STATE");
        }
        if (!isIn(what, 0, OF_STATE - 1)) {
            throw new IllegalArgumentException("what is not 0 to 6");
        }
        switch (what) {
            case 3:
                return loop.openIn(state);
            case 4:
                return oneIf(loop.isEnd(state));
            case 5:
                return oneIf(guesses.allHold(guesses.standing, state));
            case 6:
                return loop.soon[state];
            default:
                return loop.numberOf(state, what);
        }
    }

    public int goal(int goal, int what) throws IndexOutOfBoundsException, IllegalArgumentException {
        if (!isGuess(goal)) {
            throw new IndexOutOfBoundsException("no such GUESS");
        }
        if (!isIn(what, 0, OF_GOAL - 1)) {
            throw new IllegalArgumentException("what is not 0 to 4");
        }
        return tellGoal(goal, what);
    }

    public long needed(int goal) throws IndexOutOfBoundsException, IllegalStateException {
        if (!isGuess(goal)) {
            throw new IndexOutOfBoundsException("no such GUESS");
        }
        if (!sifted) {
            throw new IllegalStateException("GUESSES are not SIFTED");
        }
        if (!Goals.isSafe(loop, guesses, goal, guesses.standing)) {
            throw new IllegalStateException("the GOAL is not SAFE");
        }
        return Goals.neededOf(loop, guesses, goal);
    }

    public int loop(int what) throws IllegalArgumentException {
        if (!isIn(what, 0, OF_LOOP - 1)) {
            throw new IllegalArgumentException("what is not 0 to 15");
        }
        return tellLoop(what);
    }

    public long standing() {
        return guesses.standing;
    }

    public String words(int guess) throws IndexOutOfBoundsException {
        if (!isGuess(guess)) {
            throw new IndexOutOfBoundsException("no such GUESS");
        }
        return guesses.spell(guess);
    }

    public double part() {
        return standingPart();
    }

    // ---- what would be (nothing is changed)

    public int wouldKeep(int without) throws IndexOutOfBoundsException {
        if (!isGuess(without)) {
            throw new IndexOutOfBoundsException("no such GUESS");
        }
        long others = guesses.standing & ~Guesses.bit(without);
        return Long.bitCount(Sieve.keptOf(loop, guesses, others));
    }

    public int lies(int guess) throws IndexOutOfBoundsException {
        if (!isGuess(guess)) {
            throw new IndexOutOfBoundsException("no such GUESS");
        }
        return Goals.foundLies(loop, guesses, guess);
    }

    public int wouldEnd(int seed, int turns) throws IllegalArgumentException {
        if (!isRun(seed, turns)) {
            throw new IllegalArgumentException("seed is not 0 to 198, or turns not 1 to 60");
        }
        return loop.lastOf(seed, turns);
    }

    public boolean isSound() {
        return allIsSound();
    }

    public long digest() {
        long d = 6029;
        for (int what = 0; what < OF_LOOP; what++) {
            d = d * 31 + tellLoop(what);
        }
        for (int guess = 0; guess < guesses.count; guess++) {
            d = digestGuess(d, guess);
        }
        for (int branch = 0; branch < loop.branches; branch++) {
            d = d * 31 + loop.targetOf(branch, loop.start);
        }
        d = d * 31 + guesses.standing;
        d = d * 31 + loop.lastOf(1, 1);
        d = d * 31 + loop.lastOf(9, 9);
        d = d * 31 + (long) (64 * standingPart());
        return d * 31 + oneIf(allIsSound());
    }

    // ---- what the calls share

    private static boolean isIn(int number, int least, int most) {
        return number >= least && number <= most;
    }

    private static boolean areUpTo(int most, int first, int second, int third) {
        return isIn(first, -most, most) && isIn(second, -most, most) && isIn(third, -most, most);
    }

    private static boolean isRun(int seed, int turns) {
        return isIn(seed, 0, MOST_SEED) && isIn(turns, 1, MOST_TURNS);
    }

    private static int oneIf(boolean so) {
        return so ? 1 : 0;
    }

    private boolean isBranch(int branch) {
        return isIn(branch, 0, loop.branches - 1);
    }

    private boolean isGuess(int guess) {
        return isIn(guess, 0, guesses.count - 1);
    }

    private boolean isState(int state) {
        return isIn(state, 0, loop.states - 1);
    }

    private void learnOne(int kind, int i, int j, int steps) {
        if (guesses.count < MOST_GUESSES) {
            guesses.add(loop, kind, i, j, loop.extremeOfPath(kind, i, j, steps));
        }
    }

    private int tellGoal(int goal, int what) {
        switch (what) {
            case 0:
                return oneIf(witnessAgainst(goal, false) == NONE);
            case 1:
                return oneIf(witnessAgainst(goal, true) == NONE);
            case 2:
                return witnessAgainst(goal, false);
            case 3:
                return witnessAgainst(goal, true);
            default:
                return oneIf(Goals.foundLies(loop, guesses, goal) == 0);
        }
    }

    private int witnessAgainst(int goal, boolean endsOnly) {
        return Goals.witness(loop, guesses, goal, guesses.standing, endsOnly);
    }

    private int tellLoop(int what) {
        switch (what) {
            case 0:
                return loop.states;
            case 1:
                return loop.branches;
            case 7:
                return loop.ends(false);
            case 9:
                return loop.found;
            case 10:
                return loop.ends(true);
            case 11:
                return loop.greatestSoon();
            case 12:
                return loop.firstFall();
            case 13:
                return oneIf(sifted);
            case 14:
                return sifts;
            case 15:
                return refused;
            default:
                return tellGuesses(what);
        }
    }

    private int tellGuesses(int what) {
        switch (what) {
            case 2:
                return guesses.count;
            case 3:
                return Long.bitCount(guesses.standing);
            case 4:
                return guesses.struckBy(BY_RUN);
            case 5:
                return guesses.struckBy(BY_START);
            case 6:
                return guesses.struckBy(BY_STEP);
            default:
                return guesses.statesOfAll(loop, guesses.standing);
        }
    }

    private double standingPart() {
        if (guesses.count == 0) {
            return 1.0;
        }
        return (double) Long.bitCount(guesses.standing) / guesses.count;
    }

    private boolean allIsSound() {
        if (sifted && !Goals.standingAreFound(loop, guesses)) {
            return false;
        }
        return Goals.safeIsDone(loop, guesses) && guesses.strikesAreTrue() && loop.soon[loop.start] == 0;
    }

    private long digestGuess(long before, int guess) {
        long d = before;
        for (int what = 0; what < OF_GUESS; what++) {
            d = d * 31 + guesses.tell(loop, guess, what);
        }
        for (int what = 0; what < OF_GOAL; what++) {
            d = d * 31 + tellGoal(guess, what);
        }
        return d * 31 + Goals.foundLies(loop, guesses, guess);
    }

    /** The states and the branches, with each step and what can be reached worked out at once. */
    private static final class Loop {
        int bound;
        int states;
        int start;
        int branches;
        int found;
        final int[] guards = new int[MOST_BRANCHES * ROW];
        final int[] updates = new int[MOST_BRANCHES * ROW];
        final int[] soon = new int[MOST_STATES];
        final int[] path = new int[MOST_TURNS + 1];
        private final int[] variables = new int[MOST_BRANCHES];
        private final int[] numbers = new int[MOST_STATES * VARIABLES];
        private final int[] targets = new int[MOST_BRANCHES * MOST_STATES];
        private final int[] queue = new int[MOST_STATES];
        private final boolean[] changes = new boolean[VARIABLES * CHANGES];

        Loop() {
            layOut(FIRST_BOUND, 0, 0, 0);
        }

        static void put(int[] rows, int branch, int first, int second, int third, int more) {
            rows[branch * ROW] = first;
            rows[branch * ROW + 1] = second;
            rows[branch * ROW + 2] = third;
            rows[branch * ROW + 3] = more;
        }

        void layOut(int newBound, int first, int second, int third) {
            bound = newBound;
            int base = 2 * bound + 1;
            states = base * base * base;
            start = code(first, second, third);
            for (int x = -bound; x <= bound; x++) {
                for (int y = -bound; y <= bound; y++) {
                    for (int z = -bound; z <= bound; z++) {
                        int at = code(x, y, z) * VARIABLES;
                        numbers[at] = x;
                        numbers[at + 1] = y;
                        numbers[at + 2] = z;
                    }
                }
            }
            for (int branch = 0; branch < branches; branch++) {
                chart(branch);
            }
            reach();
        }

        int addBranch(int variable) {
            int branch = branches;
            branches++;
            variables[branch] = variable;
            put(guards, branch, 0, 0, 0, 0);
            put(updates, branch, variable == 0 ? 1 : 0, variable == 1 ? 1 : 0, variable == 2 ? 1 : 0, 0);
            redraw(branch);
            return branch;
        }

        int code(int x, int y, int z) {
            int base = 2 * bound + 1;
            return ((x + bound) * base + y + bound) * base + z + bound;
        }

        int numberOf(int state, int variable) {
            return numbers[state * VARIABLES + variable];
        }

        int targetOf(int branch, int state) {
            return targets[branch * MOST_STATES + state];
        }

        private int weigh(int[] rows, int branch, int state) {
            int sum = 0;
            for (int variable = 0; variable < VARIABLES; variable++) {
                sum += rows[branch * ROW + variable] * numberOf(state, variable);
            }
            return sum;
        }

        private boolean isOpen(int branch, int state) {
            return weigh(guards, branch, state) <= guards[branch * ROW + 3];
        }

        /** Where the update leads, whether the branch is open or not. */
        private int landing(int branch, int state) {
            int sum = weigh(updates, branch, state) + updates[branch * ROW + 3];
            int number = Math.max(-bound, Math.min(bound, sum));
            int variable = variables[branch];
            return code(variable == 0 ? number : numberOf(state, 0),
                    variable == 1 ? number : numberOf(state, 1),
                    variable == 2 ? number : numberOf(state, 2));
        }

        void redraw(int branch) {
            chart(branch);
            reach();
        }

        private void chart(int branch) {
            for (int state = 0; state < states; state++) {
                targets[branch * MOST_STATES + state] = isOpen(branch, state) ? landing(branch, state) : NONE;
            }
        }

        int opennessOf(int branch) {
            int open = 0;
            for (int state = 0; state < states; state++) {
                if (targetOf(branch, state) != NONE) {
                    open++;
                }
            }
            return open;
        }

        int changesBy(int branch) {
            int changed = 0;
            for (int state = 0; state < states; state++) {
                if (landing(branch, state) != state) {
                    changed++;
                }
            }
            return changed;
        }

        int openIn(int state) {
            int open = 0;
            for (int branch = 0; branch < branches; branch++) {
                if (targetOf(branch, state) != NONE) {
                    open++;
                }
            }
            return open;
        }

        boolean isEnd(int state) {
            return openIn(state) == 0;
        }

        boolean isFound(int state) {
            return soon[state] != NONE;
        }

        /** Each state enters the queue once, so that there is always room: it is looked at all the same. */
        private void reach() {
            for (int state = 0; state < states; state++) {
                soon[state] = NONE;
            }
            soon[start] = 0;
            queue[0] = start;
            found = 1;
            for (int at = 0; at < found && at < states; at++) {
                int from = queue[at];
                for (int branch = 0; branch < branches; branch++) {
                    int to = targetOf(branch, from);
                    if (to != NONE && soon[to] == NONE && found < states) {
                        soon[to] = soon[from] + 1;
                        queue[found] = to;
                        found++;
                    }
                }
            }
        }

        int greatestSoon() {
            int greatest = 0;
            for (int state = 0; state < states; state++) {
                greatest = Math.max(greatest, soon[state]);
            }
            return greatest;
        }

        int ends(boolean foundOnly) {
            int ends = 0;
            for (int state = 0; state < states; state++) {
                if (isEnd(state) && (isFound(state) || !foundOnly)) {
                    ends++;
                }
            }
            return ends;
        }

        /** Leaves the states of a run in the path and answers how many steps it took. */
        int walk(int seed, int turns) {
            int drawn = seed;
            path[0] = start;
            for (int step = 0; step < turns; step++) {
                int from = path[step];
                int open = openIn(from);
                if (open == 0) {
                    return step;
                }
                drawn = (43 * drawn + 17) % 199;
                path[step + 1] = goOn(from, drawn % open);
            }
            return turns;
        }

        private int goOn(int from, int place) {
            int ahead = place;
            for (int branch = 0; branch < branches; branch++) {
                int to = targetOf(branch, from);
                if (to != NONE && ahead == 0) {
                    return to;
                }
                if (to != NONE) {
                    ahead--;
                }
            }
            return from;
        }

        int lastOf(int seed, int turns) {
            return path[walk(seed, turns)];
        }

        /** The number c that makes a guess of the kind tight on the path that was walked last. */
        int extremeOfPath(int kind, int i, int j, int steps) {
            int extreme = measure(kind, i, j, path[0]);
            for (int at = 1; at <= steps; at++) {
                int number = measure(kind, i, j, path[at]);
                extreme = kind == AT_LEAST ? Math.min(extreme, number) : Math.max(extreme, number);
            }
            return extreme;
        }

        private int measure(int kind, int i, int j, int state) {
            return kind == DIFFERENCE ? numberOf(state, i) - numberOf(state, j) : numberOf(state, i);
        }

        int firstFall() {
            noteChanges();
            int number = 0;
            for (int first = -MOST_COEFFICIENT; first <= MOST_COEFFICIENT; first++) {
                for (int second = -MOST_COEFFICIENT; second <= MOST_COEFFICIENT; second++) {
                    for (int third = -MOST_COEFFICIENT; third <= MOST_COEFFICIENT; third++) {
                        if (falls(0, first) && falls(1, second) && falls(2, third)) {
                            return number;
                        }
                        number++;
                    }
                }
            }
            return NONE;
        }

        /** A step changes one variable alone, so that its change there decides whether a sum falls. */
        private void noteChanges() {
            for (int at = 0; at < VARIABLES * CHANGES; at++) {
                changes[at] = false;
            }
            for (int state = 0; state < states; state++) {
                for (int branch = 0; branch < branches; branch++) {
                    int to = targetOf(branch, state);
                    if (isFound(state) && to != NONE) {
                        int variable = variables[branch];
                        int change = numberOf(to, variable) - numberOf(state, variable);
                        changes[variable * CHANGES + change + MOST_CHANGE] = true;
                    }
                }
            }
        }

        private boolean falls(int variable, int coefficient) {
            for (int change = -MOST_CHANGE; change <= MOST_CHANGE; change++) {
                if (changes[variable * CHANGES + change + MOST_CHANGE] && coefficient * change >= 0) {
                    return false;
                }
            }
            return true;
        }
    }

    /** The guesses, with the set of those that hold kept for each state. */
    private static final class Guesses {
        int count;
        long standing;
        private final int[] kinds = new int[MOST_GUESSES];
        private final int[] firsts = new int[MOST_GUESSES];
        private final int[] seconds = new int[MOST_GUESSES];
        private final int[] limits = new int[MOST_GUESSES];
        private final int[] struckBy = new int[MOST_GUESSES];
        private final int[] struckIn = new int[MOST_GUESSES];
        private final int[] struckBranch = new int[MOST_GUESSES];
        private final int[] struckRound = new int[MOST_GUESSES];
        private final long[] held = new long[MOST_STATES];

        static long bit(int guess) {
            return 1L << guess;
        }

        boolean canTell(int kind, int name) {
            if (kind != FOLLOWS) {
                return isIn(name, 0, VARIABLES - 1);
            }
            return isIn(name, 0, count - 1) && kinds[name] != FOLLOWS;
        }

        int add(Loop loop, int kind, int i, int j, int c) {
            int guess = count;
            count++;
            kinds[guess] = kind;
            firsts[guess] = i;
            seconds[guess] = j;
            limits[guess] = c;
            stand(guess);
            mark(loop, guess);
            return guess;
        }

        void standAgain(Loop loop) {
            for (int guess = 0; guess < count; guess++) {
                stand(guess);
                mark(loop, guess);
            }
        }

        private void stand(int guess) {
            standing |= bit(guess);
            struckBy[guess] = NONE;
            struckIn[guess] = NONE;
            struckBranch[guess] = NONE;
            struckRound[guess] = 0;
        }

        /** A guess of KIND 6 asks what is kept of two told ahead of it: mark those first. */
        private void mark(Loop loop, int guess) {
            for (int state = 0; state < loop.states; state++) {
                if (isSo(loop, guess, state)) {
                    held[state] |= bit(guess);
                } else {
                    held[state] &= ~bit(guess);
                }
            }
        }

        private boolean isSo(Loop loop, int guess, int state) {
            if (kinds[guess] == FOLLOWS) {
                return !isHeld(firsts[guess], state) || isHeld(seconds[guess], state);
            }
            int i = loop.numberOf(state, firsts[guess]);
            int j = loop.numberOf(state, seconds[guess]);
            int c = limits[guess];
            switch (kinds[guess]) {
                case AT_MOST:
                    return i <= c;
                case AT_LEAST:
                    return i >= c;
                case DIFFERENCE:
                    return i - j <= c;
                case SUM:
                    return i + j <= c;
                case REST_BY_TWO:
                    return Math.floorMod(i, 2) == Math.floorMod(c, 2);
                default:
                    return Math.floorMod(i + j, 3) == Math.floorMod(c, 3);
            }
        }

        boolean isHeld(int guess, int state) {
            return (held[state] & bit(guess)) != 0;
        }

        boolean allHold(long set, int state) {
            return missing(set, state) == 0;
        }

        long missing(long set, int state) {
            return set & ~held[state];
        }

        int statesOfAll(Loop loop, long set) {
            int states = 0;
            for (int state = 0; state < loop.states; state++) {
                if (allHold(set, state)) {
                    states++;
                }
            }
            return states;
        }

        void strike(long set, int by, int state, int branch, int round) {
            for (int guess = 0; guess < count && set != 0; guess++) {
                if ((set & bit(guess)) != 0) {
                    struckBy[guess] = by;
                    struckIn[guess] = state;
                    struckBranch[guess] = branch;
                    struckRound[guess] = round;
                }
            }
            standing &= ~set;
        }

        int struckBy(int by) {
            int struck = 0;
            for (int guess = 0; guess < count; guess++) {
                if (struckBy[guess] == by) {
                    struck++;
                }
            }
            return struck;
        }

        boolean strikesAreTrue() {
            for (int guess = 0; guess < count; guess++) {
                boolean byState = struckBy[guess] == BY_RUN || struckBy[guess] == BY_START;
                if (byState && isHeld(guess, struckIn[guess])) {
                    return false;
                }
            }
            return true;
        }

        boolean stands(int guess) {
            return (standing & bit(guess)) != 0;
        }

        int tell(Loop loop, int guess, int what) {
            switch (what) {
                case 0:
                    return kinds[guess];
                case 1:
                    return firsts[guess];
                case 2:
                    return seconds[guess];
                case 3:
                    return limits[guess];
                case 4:
                    return oneIf(stands(guess));
                case 5:
                    return struckBy[guess];
                case 6:
                    return struckIn[guess];
                case 7:
                    return struckBranch[guess];
                case 8:
                    return struckRound[guess];
                default:
                    return statesOfAll(loop, bit(guess));
            }
        }

        String spell(int guess) {
            StringBuilder text = new StringBuilder();
            int i = firsts[guess];
            int j = seconds[guess];
            int c = limits[guess];
            switch (kinds[guess]) {
                case AT_MOST:
                    text.append(letter(i)).append(" <= ").append(c);
                    break;
                case AT_LEAST:
                    text.append(letter(i)).append(" >= ").append(c);
                    break;
                case DIFFERENCE:
                    text.append(letter(i)).append(" - ").append(letter(j)).append(" <= ").append(c);
                    break;
                case SUM:
                    text.append(letter(i)).append(" + ").append(letter(j)).append(" <= ").append(c);
                    break;
                case REST_BY_TWO:
                    text.append(letter(i)).append(" = ").append(Math.floorMod(c, 2)).append(" by 2");
                    break;
                case REST_BY_THREE:
                    text.append(letter(i)).append(" + ").append(letter(j));
                    text.append(" = ").append(Math.floorMod(c, 3)).append(" by 3");
                    break;
                default:
                    text.append(i).append(" -> ").append(j);
                    break;
            }
            if (!stands(guess)) {
                text.append(" (struck)");
            }
            return text.toString();
        }

        private static char letter(int variable) {
            return (char) ('x' + variable);
        }
    }

    /** Striking by START and by steps, round by round. */
    private static final class Sieve {
        /** Each round but the last one strikes a guess. */
        private static final int MOST_ROUNDS = MOST_GUESSES + 1;

        static int strikeAll(Loop loop, Guesses guesses) {
            guesses.strike(guesses.missing(guesses.standing, loop.start), BY_START, loop.start, NONE, 0);
            int round = 1;
            while (round < MOST_ROUNDS && strikeRound(loop, guesses, round)) {
                round++;
            }
            return round;
        }

        private static boolean strikeRound(Loop loop, Guesses guesses, int round) {
            long before = guesses.standing;
            for (int state = 0; state < loop.states; state++) {
                for (int branch = 0; branch < loop.branches && guesses.allHold(before, state); branch++) {
                    long fallen = fallenBy(loop, guesses, before, state, branch);
                    guesses.strike(fallen & guesses.standing, BY_STEP, state, branch, round);
                }
            }
            return guesses.standing != before;
        }

        private static long fallenBy(Loop loop, Guesses guesses, long set, int state, int branch) {
            int to = loop.targetOf(branch, state);
            return to == NONE ? 0 : guesses.missing(set, to);
        }

        /** What a sift of just this set would leave; nothing is struck. */
        static long keptOf(Loop loop, Guesses guesses, long set) {
            long kept = set & ~guesses.missing(set, loop.start);
            for (int round = 1; round <= MOST_ROUNDS; round++) {
                long fallen = fallenOf(loop, guesses, kept);
                if (fallen == 0) {
                    return kept;
                }
                kept &= ~fallen;
            }
            return kept;
        }

        private static long fallenOf(Loop loop, Guesses guesses, long set) {
            long fallen = 0;
            for (int state = 0; state < loop.states; state++) {
                for (int branch = 0; branch < loop.branches && guesses.allHold(set, state); branch++) {
                    fallen |= fallenBy(loop, guesses, set, state, branch);
                }
            }
            return fallen;
        }
    }

    /** What the guesses that are left prove, and what is so in fact. */
    private static final class Goals {
        static int witness(Loop loop, Guesses guesses, int goal, long set, boolean endsOnly) {
            for (int state = 0; state < loop.states; state++) {
                boolean against = guesses.allHold(set, state) && !guesses.isHeld(goal, state);
                if (against && (!endsOnly || loop.isEnd(state))) {
                    return state;
                }
            }
            return NONE;
        }

        static boolean isSafe(Loop loop, Guesses guesses, int goal, long set) {
            return witness(loop, guesses, goal, set, false) == NONE;
        }

        static long neededOf(Loop loop, Guesses guesses, int goal) {
            long left = guesses.standing;
            for (int guess = guesses.count - 1; guess >= 0; guess--) {
                if ((left & Guesses.bit(guess)) != 0) {
                    long kept = Sieve.keptOf(loop, guesses, left & ~Guesses.bit(guess));
                    left = isSafe(loop, guesses, goal, kept) ? kept : left;
                }
            }
            return left;
        }

        static int foundLies(Loop loop, Guesses guesses, int guess) {
            int lies = 0;
            for (int state = 0; state < loop.states; state++) {
                if (loop.isFound(state) && !guesses.isHeld(guess, state)) {
                    lies++;
                }
            }
            return lies;
        }

        static boolean standingAreFound(Loop loop, Guesses guesses) {
            if (!guesses.allHold(guesses.standing, loop.start)) {
                return false;
            }
            for (int state = 0; state < loop.states; state++) {
                if (loop.isFound(state) && !guesses.allHold(guesses.standing, state)) {
                    return false;
                }
            }
            return true;
        }

        static boolean safeIsDone(Loop loop, Guesses guesses) {
            for (int goal = 0; goal < guesses.count; goal++) {
                boolean isDone = witness(loop, guesses, goal, guesses.standing, true) == NONE;
                if (isSafe(loop, guesses, goal, guesses.standing) && !isDone) {
                    return false;
                }
            }
            return true;
        }
    }
}
