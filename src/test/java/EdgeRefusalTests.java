/** One method for each sentence that says what a call throws: what is just let, what is just refused, and by what. */
public final class EdgeRefusalTests {
    private interface Told {
        Object on(HoundlightProofs x);
    }

    private static final Class<IndexOutOfBoundsException> INDEX = IndexOutOfBoundsException.class;
    private static final Class<IllegalArgumentException> ARGUMENT = IllegalArgumentException.class;
    private static final Class<IllegalStateException> STATE = IllegalStateException.class;
    private static final int LEAST = Integer.MIN_VALUE;
    private static final int MOST = Integer.MAX_VALUE;
    private static final String BUSY = Scenes.tour(Scenes.busy());
    private static final String FULL = Scenes.tour(Scenes.full());

    private EdgeRefusalTests() {
    }

    public static void main(String[] args) {
        beginOfBound();
        beginOfNumbers();
        branchOfVariable();
        branchBehindEight();
        guardOfBranch();
        guardOfNumbers();
        updateOfBranch();
        updateOfNumbers();
        guessOfKind();
        guessOfC();
        guessOfVariables();
        guessOfGuesses();
        guessBehindForty();
        learnOfSeedAndTurns();
        runOfSeedAndTurns();
        wouldEndOfSeedAndTurns();
        ofGuessOfGuess();
        ofGuessOfWhat();
        holdsOfGuessAndState();
        stepOfBranchAndState();
        ofStateOfState();
        ofStateOfWhat();
        goalOfGuess();
        goalOfWhat();
        neededOfGuess();
        neededOfSifted();
        neededOfSafe();
        loopOfWhat();
        wordsOfGuess();
        wouldKeepOfGuess();
        liesOfGuess();
        othersThrowNothing();
        Check.end("EdgeRefusalTests");
    }

    private static void busy(String what, Class<? extends RuntimeException> due, Told call) {
        HoundlightProofs x = Scenes.busy();
        Check.same(what, "throws " + due.getName(), () -> call.on(x));
        Check.same(what + " changes nothing", BUSY, () -> Scenes.tour(x));
    }

    private static void full(String what, Class<? extends RuntimeException> due, Told call) {
        HoundlightProofs x = Scenes.full();
        Check.same(what, "throws " + due.getName(), () -> call.on(x));
        Check.same(what + " changes nothing", FULL, () -> Scenes.tour(x));
    }

    private static void lets(String what, Object due, Told call) {
        HoundlightProofs x = Scenes.busy();
        Check.same(what, due, () -> call.on(x));
    }

    private static int[] beside(int least, int most) {
        return new int[] {least - 1, most + 1, LEAST, MOST};
    }

    /** «if bound is not 1 to 3» */
    private static void beginOfBound() {
        lets("BOUND 1", 13, x -> x.begin(1, 0, 0, 0));
        lets("BOUND 3", 171, x -> x.begin(3, 0, 0, 0));
        for (int wrong : beside(1, 3)) {
            busy("begin(" + wrong + ", ..)", ARGUMENT, x -> x.begin(wrong, 0, 0, 0));
        }
    }

    /** «or first, second or third not -bound to bound» */
    private static void beginOfNumbers() {
        for (int bound = 1; bound <= 3; bound++) {
            int b = bound;
            lets("the least of " + b, 0, x -> x.begin(b, -b, -b, -b));
            lets("the greatest of " + b, Scenes.code(b, b, b, b), x -> x.begin(b, b, b, b));
            for (int wrong : beside(-bound, bound)) {
                busy("first " + wrong, ARGUMENT, x -> x.begin(b, wrong, 0, 0));
                busy("second " + wrong, ARGUMENT, x -> x.begin(b, 0, wrong, 0));
                busy("third " + wrong, ARGUMENT, x -> x.begin(b, 0, 0, wrong));
            }
        }
        busy("of the BOUND told, not of the one ahead", ARGUMENT, x -> x.begin(1, 2, 0, 0));
        busy("all wrong", ARGUMENT, x -> x.begin(0, 1, 1, 1));
    }

    /** «if variable is not 0 to 2» */
    private static void branchOfVariable() {
        lets("VARIABLE 0", 2, x -> x.branch(0));
        lets("VARIABLE 2", 2, x -> x.branch(2));
        for (int wrong : beside(0, 2)) {
            busy("branch(" + wrong + ")", INDEX, x -> x.branch(wrong));
            full("branch(" + wrong + ") behind eight", INDEX, x -> x.branch(wrong));
        }
    }

    /** «if there are 8» */
    private static void branchBehindEight() {
        HoundlightProofs x = new HoundlightProofs();
        for (int number = 0; number < 8; number++) {
            Check.same("branch", number, () -> x.branch(2));
        }
        Check.same("the ninth", "throws " + STATE.getName(), () -> x.branch(2));
        Check.same("there are eight", 8, () -> x.loop(1));
        for (int variable = 0; variable < 3; variable++) {
            int v = variable;
            full("branch(" + v + ") behind eight", STATE, y -> y.branch(v));
        }
    }

    /** «guard: if there is no such BRANCH», ahead of all else */
    private static void guardOfBranch() {
        lets("the first", 18, x -> x.guard(0, 1, 0, 0, 0));
        lets("the last", 18, x -> x.guard(1, 1, 0, 0, 0));
        for (int wrong : beside(0, 1)) {
            busy("guard(" + wrong + ", ..)", INDEX, x -> x.guard(wrong, 0, 0, 0, 0));
            busy("guard(" + wrong + ", 3, ..)", INDEX, x -> x.guard(wrong, 3, 0, 0, 0));
            busy("guard(" + wrong + ", .., 21)", INDEX, x -> x.guard(wrong, 0, 0, 0, 21));
        }
        full("behind eight", INDEX, x -> x.guard(8, 0, 0, 0, 0));
        Check.same("of none", "throws " + INDEX.getName(), () -> new HoundlightProofs().guard(0, 0, 0, 0, 0));
    }

    /** «guard: if first, second or third is not -2 to 2, or c not -20 to 20» */
    private static void guardOfNumbers() {
        lets("the least", 0, x -> x.guard(0, -2, -2, -2, -20));
        lets("the greatest", 27, x -> x.guard(0, 2, 2, 2, 20));
        for (int wrong : beside(-2, 2)) {
            busy("first " + wrong, ARGUMENT, x -> x.guard(0, wrong, 0, 0, 0));
            busy("second " + wrong, ARGUMENT, x -> x.guard(0, 0, wrong, 0, 0));
            busy("third " + wrong, ARGUMENT, x -> x.guard(1, 0, 0, wrong, 0));
        }
        for (int wrong : beside(-20, 20)) {
            busy("c " + wrong, ARGUMENT, x -> x.guard(1, 0, 0, 0, wrong));
        }
    }

    /** «update: if there is no such BRANCH», ahead of all else */
    private static void updateOfBranch() {
        lets("the first", 27, x -> x.update(0, -2, 0, 0, 5) + 9);
        lets("the last", 18, x -> x.update(1, 0, 1, 0, 1));
        for (int wrong : beside(0, 1)) {
            busy("update(" + wrong + ", ..)", INDEX, x -> x.update(wrong, 0, 0, 0, 0));
            busy("update(" + wrong + ", .., -3, ..)", INDEX, x -> x.update(wrong, 0, 0, -3, 0));
            busy("update(" + wrong + ", .., 6)", INDEX, x -> x.update(wrong, 0, 0, 0, 6));
        }
        full("behind eight", INDEX, x -> x.update(8, 0, 0, 0, 0));
        Check.same("of none", "throws " + INDEX.getName(), () -> new HoundlightProofs().update(0, 0, 0, 0, 0));
    }

    /** «update: if first, second or third is not -2 to 2, or e not -5 to 5» */
    private static void updateOfNumbers() {
        lets("the greatest: x stays where it is 1, and at -1 -1 -1", 17, x -> x.update(0, 2, 2, 2, 5));
        lets("the least e: x stays where it is -1, and at 1 1 1", 17, x -> x.update(0, 2, 2, 2, -5));
        lets("the least COEFFICIENTS", 18, x -> x.update(0, -2, 0, 0, -5));
        for (int wrong : beside(-2, 2)) {
            busy("first " + wrong, ARGUMENT, x -> x.update(0, wrong, 0, 0, 0));
            busy("second " + wrong, ARGUMENT, x -> x.update(0, 0, wrong, 0, 0));
            busy("third " + wrong, ARGUMENT, x -> x.update(1, 0, 0, wrong, 0));
        }
        for (int wrong : beside(-5, 5)) {
            busy("e " + wrong, ARGUMENT, x -> x.update(1, 0, 0, 0, wrong));
        }
    }

    /** «if kind is not 0 to 6» */
    private static void guessOfKind() {
        lets("KIND 0", 5, x -> x.guess(0, 0, 0, 0));
        lets("KIND 6", 5, x -> x.guess(6, 0, 0, 0));
        for (int wrong : beside(0, 6)) {
            busy("KIND " + wrong, ARGUMENT, x -> x.guess(wrong, 0, 0, 0));
            full("KIND " + wrong + " behind forty", ARGUMENT, x -> x.guess(wrong, 0, 0, 0));
        }
    }

    /** «c not -9 to 9» */
    private static void guessOfC() {
        for (int kind = 0; kind <= 6; kind++) {
            int k = kind;
            lets("c 9", 5, x -> x.guess(k, 0, 1, 9));
            lets("c -9", 5, x -> x.guess(k, 0, 1, -9));
            for (int wrong : beside(-9, 9)) {
                busy("KIND " + k + " with c " + wrong, ARGUMENT, x -> x.guess(k, 0, 0, wrong));
            }
            full("c 10 behind forty", ARGUMENT, x -> x.guess(k, 0, 0, 10));
        }
    }

    /** «i or j not 0 to 2», of KIND 0 to 5 */
    private static void guessOfVariables() {
        for (int kind = 0; kind <= 5; kind++) {
            int k = kind;
            lets("i 2", 5, x -> x.guess(k, 2, 0, 0));
            lets("j 2", 5, x -> x.guess(k, 0, 2, 0));
            for (int wrong : beside(0, 2)) {
                busy("KIND " + k + " with i " + wrong, ARGUMENT, x -> x.guess(k, wrong, 0, 0));
                busy("KIND " + k + " with j " + wrong, ARGUMENT, x -> x.guess(k, 0, wrong, 0));
            }
            full("i 3 behind forty", ARGUMENT, x -> x.guess(k, 3, 0, 0));
            full("j -1 behind forty", ARGUMENT, x -> x.guess(k, 0, -1, 0));
        }
    }

    /** «(of KIND 6: not the number of a GUESS of KIND 0 to 5 that there is)» */
    private static void guessOfGuesses() {
        Check.same("of none", "throws " + ARGUMENT.getName(), () -> new HoundlightProofs().guess(6, 0, 0, 0));
        lets("i 3, more than any VARIABLE", 5, x -> x.guess(6, 3, 0, 0));
        lets("j 3", 5, x -> x.guess(6, 0, 3, 0));
        for (int wrong : new int[] {-1, 4, 5, 6, LEAST, MOST}) {
            busy("KIND 6 with i " + wrong, ARGUMENT, x -> x.guess(6, wrong, 0, 0));
            busy("KIND 6 with j " + wrong, ARGUMENT, x -> x.guess(6, 0, wrong, 0));
        }
        full("itself behind forty", ARGUMENT, x -> x.guess(6, 0, 40, 0));
        HoundlightProofs x = new HoundlightProofs();
        for (int kind = 0; kind <= 5; kind++) {
            x.guess(kind, 0, 0, 0);
        }
        for (int kind = 0; kind <= 5; kind++) {
            int k = kind;
            Check.same("of KIND " + k, 6 + k, () -> x.guess(6, k, 5 - k, 0));
        }
        Check.same("of the first of KIND 6", "throws " + ARGUMENT.getName(), () -> x.guess(6, 6, 0, 0));
        Check.same("to the last of KIND 6", "throws " + ARGUMENT.getName(), () -> x.guess(6, 0, 11, 0));
    }

    /** «if there are 40» */
    private static void guessBehindForty() {
        HoundlightProofs x = new HoundlightProofs();
        x.guess(0, 0, 0, 0);
        for (int number = 1; number < 40; number++) {
            Check.same("guess", number, () -> x.guess(6, 0, 0, 0));
        }
        Check.same("the next one", "throws " + STATE.getName(), () -> x.guess(0, 0, 0, 0));
        Check.same("there are forty", 40, () -> x.loop(2));
        for (int kind = 0; kind <= 6; kind++) {
            int k = kind;
            full("KIND " + k + " behind forty", STATE, y -> y.guess(k, 1, 2, 3));
        }
    }

    /** «if seed is not 0 to 198, or turns not 1 to 60», of learn() */
    private static void learnOfSeedAndTurns() {
        lets("the least", 9, x -> x.learn(0, 1));
        lets("the greatest", 9, x -> x.learn(198, 60));
        for (int wrong : beside(0, 198)) {
            busy("seed " + wrong, ARGUMENT, x -> x.learn(wrong, 1));
            full("seed " + wrong + " without room", ARGUMENT, x -> x.learn(wrong, 1));
        }
        for (int wrong : beside(1, 60)) {
            busy("turns " + wrong, ARGUMENT, x -> x.learn(0, wrong));
            full("turns " + wrong + " without room", ARGUMENT, x -> x.learn(0, wrong));
        }
    }

    /** «if seed is not 0 to 198, or turns not 1 to 60», of run() */
    private static void runOfSeedAndTurns() {
        lets("the least", 0, x -> x.run(0, 1));
        lets("the greatest", 0, x -> x.run(198, 60));
        for (int wrong : beside(0, 198)) {
            busy("seed " + wrong, ARGUMENT, x -> x.run(wrong, 1));
        }
        for (int wrong : beside(1, 60)) {
            busy("turns " + wrong, ARGUMENT, x -> x.run(0, wrong));
        }
    }

    /** «if seed is not 0 to 198, or turns not 1 to 60», of wouldEnd() */
    private static void wouldEndOfSeedAndTurns() {
        lets("the least: 17 is place 1, y is 0", 13, x -> x.wouldEnd(0, 1));
        lets("the greatest: 173 is place 1, 93 too, 36 is place 0", 22, x -> x.wouldEnd(198, 60));
        for (int wrong : beside(0, 198)) {
            busy("seed " + wrong, ARGUMENT, x -> x.wouldEnd(wrong, 1));
        }
        for (int wrong : beside(1, 60)) {
            busy("turns " + wrong, ARGUMENT, x -> x.wouldEnd(0, wrong));
        }
    }

    /** «ofGuess: if there is no such GUESS», ahead of what */
    private static void ofGuessOfGuess() {
        lets("the first", 1, x -> x.ofGuess(0, 0));
        lets("the last", 6, x -> x.ofGuess(4, 0));
        for (int wrong : beside(0, 4)) {
            busy("ofGuess(" + wrong + ", 0)", INDEX, x -> x.ofGuess(wrong, 0));
            busy("ofGuess(" + wrong + ", 10)", INDEX, x -> x.ofGuess(wrong, 10));
        }
        full("behind forty", INDEX, x -> x.ofGuess(40, -1));
        Check.same("of none", "throws " + INDEX.getName(), () -> new HoundlightProofs().ofGuess(0, 0));
    }

    /** «ofGuess: if what is not 0 to 9» */
    private static void ofGuessOfWhat() {
        lets("what 0", 6, x -> x.ofGuess(4, 0));
        lets("what 9: x is 1 in 9 STATES, z <= 0 in 12 of the others", 21, x -> x.ofGuess(4, 9));
        for (int wrong : beside(0, 9)) {
            busy("ofGuess(0, " + wrong + ")", ARGUMENT, x -> x.ofGuess(0, wrong));
        }
    }

    /** «holds: if there is no such GUESS, or STATE» */
    private static void holdsOfGuessAndState() {
        lets("the first of the first", false, x -> x.holds(0, 0));
        lets("the last of the last", true, x -> x.holds(4, 26));
        for (int wrong : beside(0, 4)) {
            busy("holds(" + wrong + ", 0)", INDEX, x -> x.holds(wrong, 0));
        }
        for (int wrong : beside(0, 26)) {
            busy("holds(0, " + wrong + ")", INDEX, x -> x.holds(0, wrong));
        }
        Check.same("of none", "throws " + INDEX.getName(), () -> new HoundlightProofs().holds(0, 0));
    }

    /** «step: if there is no such BRANCH, or STATE» */
    private static void stepOfBranchAndState() {
        lets("the first of the first", 9, x -> x.step(0, 0));
        lets("the last of the last", -1, x -> x.step(1, 26));
        for (int wrong : beside(0, 1)) {
            busy("step(" + wrong + ", 0)", INDEX, x -> x.step(wrong, 0));
        }
        for (int wrong : beside(0, 26)) {
            busy("step(0, " + wrong + ")", INDEX, x -> x.step(0, wrong));
        }
        full("behind eight", INDEX, x -> x.step(8, 0));
        Check.same("of none", "throws " + INDEX.getName(), () -> new HoundlightProofs().step(0, 0));
    }

    /** «ofState: if there is no such STATE», by the BOUND that is told, and ahead of what */
    private static void ofStateOfState() {
        for (int bound = 1; bound <= 3; bound++) {
            HoundlightProofs x = new HoundlightProofs();
            x.begin(3, 0, 0, 0);
            x.begin(bound, 0, 0, 0);
            int states = x.loop(0);
            int b = bound;
            Check.same("the first", -b, () -> x.ofState(0, 0));
            Check.same("the last", b, () -> x.ofState(states - 1, 0));
            Check.same("one more", "throws " + INDEX.getName(), () -> x.ofState(states, 0));
        }
        for (int wrong : beside(0, 26)) {
            busy("ofState(" + wrong + ", 0)", INDEX, x -> x.ofState(wrong, 0));
            busy("ofState(" + wrong + ", 7)", INDEX, x -> x.ofState(wrong, 7));
        }
    }

    /** «ofState: if what is not 0 to 6» */
    private static void ofStateOfWhat() {
        lets("what 0", 0, x -> x.ofState(13, 0));
        lets("what 6", 0, x -> x.ofState(13, 6));
        for (int wrong : beside(0, 6)) {
            busy("ofState(13, " + wrong + ")", ARGUMENT, x -> x.ofState(13, wrong));
        }
    }

    /** «goal: if there is no such GUESS», ahead of what */
    private static void goalOfGuess() {
        lets("the first", 0, x -> x.goal(0, 0));
        lets("the last", 1, x -> x.goal(4, 0));
        for (int wrong : beside(0, 4)) {
            busy("goal(" + wrong + ", 0)", INDEX, x -> x.goal(wrong, 0));
            busy("goal(" + wrong + ", 5)", INDEX, x -> x.goal(wrong, 5));
        }
        full("behind forty", INDEX, x -> x.goal(40, 0));
        Check.same("of none", "throws " + INDEX.getName(), () -> new HoundlightProofs().goal(0, 0));
    }

    /** «goal: if what is not 0 to 4» */
    private static void goalOfWhat() {
        lets("what 0", 1, x -> x.goal(1, 0));
        lets("what 4", 1, x -> x.goal(1, 4));
        for (int wrong : beside(0, 4)) {
            busy("goal(1, " + wrong + ")", ARGUMENT, x -> x.goal(1, wrong));
        }
    }

    /** «needed: if there is no such GUESS», ahead of all else */
    private static void neededOfGuess() {
        lets("one", 2L, x -> x.needed(1));
        lets("the last", 2L, x -> x.needed(4));
        for (int wrong : beside(0, 4)) {
            busy("needed(" + wrong + ")", INDEX, x -> x.needed(wrong));
        }
        full("behind forty", INDEX, x -> x.needed(40));
        Check.same("of none, not SIFTED", "throws " + INDEX.getName(), () -> new HoundlightProofs().needed(0));
    }

    /** «needed: if GUESSES are not SIFTED» */
    private static void neededOfSifted() {
        HoundlightProofs x = new HoundlightProofs();
        x.guess(0, 0, 0, 0);
        Check.refused("not ahead of a SIFT", STATE, x, () -> x.needed(0));
        Check.refused("the GUESS first", INDEX, x, () -> x.needed(1));
        x.sift();
        Check.same("behind it", 1L, () -> x.needed(0));
        x.run(0, 1);
        Check.refused("not behind a RUN", STATE, x, () -> x.needed(0));
    }

    /** «needed: or it is not SAFE» */
    private static void neededOfSafe() {
        busy("struck by a RUN, and not SAFE", STATE, x -> x.needed(0));
        busy("struck by START, and not SAFE", STATE, x -> x.needed(2));
        busy("struck by a STEP, and not SAFE", STATE, x -> x.needed(3));
        HoundlightProofs x = new HoundlightProofs();
        x.begin(1, 0, 0, 0);
        Scenes.adding(x, 0, 1);
        x.guard(0, 1, 0, 0, 0);
        x.guess(1, 0, 0, 1);
        x.sift();
        Check.same("DONE", 1, () -> x.goal(0, 1));
        Check.refused("is not enough", STATE, x, () -> x.needed(0));
    }

    /** «loop: if what is not 0 to 15» */
    private static void loopOfWhat() {
        lets("what 0", 27, x -> x.loop(0));
        lets("what 15", 1, x -> x.loop(15));
        for (int wrong : beside(0, 15)) {
            busy("loop(" + wrong + ")", ARGUMENT, x -> x.loop(wrong));
        }
    }

    /** «words: if there is no such GUESS» */
    private static void wordsOfGuess() {
        lets("the first", "y >= 1 (struck)", x -> x.words(0));
        lets("the last", "3 -> 1", x -> x.words(4));
        for (int wrong : beside(0, 4)) {
            busy("words(" + wrong + ")", INDEX, x -> x.words(wrong));
        }
        full("behind forty", INDEX, x -> x.words(40));
        Check.same("of none", "throws " + INDEX.getName(), () -> new HoundlightProofs().words(0));
    }

    /** «wouldKeep: if there is no such GUESS» */
    private static void wouldKeepOfGuess() {
        lets("the first, which is struck", 2, x -> x.wouldKeep(0));
        lets("the last", 1, x -> x.wouldKeep(4));
        for (int wrong : beside(0, 4)) {
            busy("wouldKeep(" + wrong + ")", INDEX, x -> x.wouldKeep(wrong));
        }
        full("behind forty", INDEX, x -> x.wouldKeep(40));
        Check.same("of none", "throws " + INDEX.getName(), () -> new HoundlightProofs().wouldKeep(0));
    }

    /** «lies: if there is no such GUESS» */
    private static void liesOfGuess() {
        lets("the first: START and x is 1", 2, x -> x.lies(0));
        lets("the last", 0, x -> x.lies(4));
        for (int wrong : beside(0, 4)) {
            busy("lies(" + wrong + ")", INDEX, x -> x.lies(wrong));
        }
        full("behind forty", INDEX, x -> x.lies(40));
        Check.same("of none", "throws " + INDEX.getName(), () -> new HoundlightProofs().lies(0));
    }

    /** sift(), call(), standing(), part(), isSound() and digest() throw nothing, whatever there is. */
    private static void othersThrowNothing() {
        for (HoundlightProofs x : new HoundlightProofs[] {new HoundlightProofs(), Scenes.busy(), Scenes.full()}) {
            Check.same("sift", 1, x::sift);
            Check.same("standing", x.loop(3), () -> Long.bitCount(x.standing()));
            Check.same("part", true, () -> x.part() >= 0 && x.part() <= 1);
            Check.same("isSound", true, x::isSound);
            long before = x.digest();
            Check.same("digest", before, x::digest);
            int ever = x.loop(15);
            Check.same("call", ever + 1, x::call);
        }
    }
}
