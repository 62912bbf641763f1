/** One method for each sentence of the Terms 3 to 5 (guesses, runs, striking) that names an edge; it stands above. */
public final class EdgeStrikeTests {
    private EdgeStrikeTests() {
    }

    public static void main(String[] args) {
        kindsAtTheirLimits();
        greatestAndLeastC();
        sameVariableTwice();
        jDoesNotMatter();
        ifThen();
        struckOrNot();
        struckForGood();
        startStrikesInRuns();
        standingOnesAreStruckOnce();
        overInAnEnd();
        placesOfThoseOpen();
        overBehindItsTurns();
        startStrikesFirst();
        statesAsTheRoundBegan();
        struckAsTheRoundEnds();
        firstStateAndBranch();
        roundsAreToldAnew();
        lastRoundStrikesNone();
        eachOfFortyInItsOwnRound();
        whatIsLeftIsKept();
        notSiftedAheadOfTheFirst();
        siftedUntilSomethingIsLet();
        siftedStays();
        Check.end("EdgeStrikeTests");
    }

    private static HoundlightProofs wide() {
        HoundlightProofs x = new HoundlightProofs();
        x.begin(3, 0, 0, 0);
        return x;
    }

    private static void of(HoundlightProofs x, int kind, int i, int j, int c, int states) {
        int guess = x.guess(kind, i, j, c);
        Check.same(x.words(guess) + " HOLDS in", states, () -> x.ofGuess(guess, 9));
    }

    /** «0: i is no more than c; 1: i is no less than c; 2: i less j is no more than c; 3: i and j together ..» */
    private static void kindsAtTheirLimits() {
        HoundlightProofs x = wide();
        x.guess(0, 0, 1, -1);
        x.guess(1, 1, 2, 2);
        x.guess(2, 2, 0, -4);
        x.guess(3, 1, 2, 5);
        Check.same("-1 is no more than -1", true, () -> x.holds(0, Scenes.code(3, -1, 3, 3)));
        Check.same("0 is more", false, () -> x.holds(0, Scenes.code(3, 0, -3, -3)));
        Check.same("2 is no less than 2", true, () -> x.holds(1, Scenes.code(3, -3, 2, -3)));
        Check.same("1 is less", false, () -> x.holds(1, Scenes.code(3, 3, 1, 3)));
        Check.same("-1 less 3 is -4", true, () -> x.holds(2, Scenes.code(3, 3, 0, -1)));
        Check.same("-1 less 2 is -3", false, () -> x.holds(2, Scenes.code(3, 2, 0, -1)));
        Check.same("3 less -1 is 4", false, () -> x.holds(2, Scenes.code(3, -1, 0, 3)));
        Check.same("2 and 3 are 5", true, () -> x.holds(3, Scenes.code(3, 3, 2, 3)));
        Check.same("3 and 3 are 6", false, () -> x.holds(3, Scenes.code(3, -3, 3, 3)));
    }

    /** «a number c (-9 to 9)» */
    private static void greatestAndLeastC() {
        HoundlightProofs x = wide();
        of(x, 0, 0, 0, 9, 343);
        of(x, 0, 0, 0, -9, 0);
        of(x, 1, 1, 1, 9, 0);
        of(x, 1, 1, 1, -9, 343);
        of(x, 2, 0, 2, 9, 343);
        of(x, 2, 0, 2, 6, 343);
        of(x, 2, 0, 2, 5, 336);
        of(x, 2, 0, 2, -6, 7);
        of(x, 2, 0, 2, -7, 0);
        of(x, 2, 0, 2, -9, 0);
        of(x, 3, 2, 1, 9, 343);
        of(x, 3, 2, 1, 6, 343);
        of(x, 3, 2, 1, 5, 336);
        of(x, 3, 2, 1, -6, 7);
        of(x, 3, 2, 1, -7, 0);
        of(x, 3, 2, 1, -9, 0);
        of(x, 4, 0, 0, 9, 196);
        of(x, 4, 0, 0, -9, 196);
        of(x, 4, 0, 0, -8, 147);
        of(x, 5, 0, 1, 9, 119);
        of(x, 5, 0, 1, -9, 119);
        of(x, 5, 0, 1, 8, 112);
        of(x, 5, 0, 1, -8, 112);
        of(x, 6, 0, 1, -9, 0);
        of(x, 6, 1, 0, 9, 343);
    }

    /** «with two VARIABLES i and j»: they may be the same one. */
    private static void sameVariableTwice() {
        HoundlightProofs x = wide();
        of(x, 2, 1, 1, 0, 343);
        of(x, 2, 1, 1, -1, 0);
        of(x, 3, 0, 0, 1, 196);
        of(x, 3, 2, 2, -6, 49);
        of(x, 5, 2, 2, 0, 147);
        of(x, 5, 2, 2, 2, 98);
    }

    /** «(Of KIND 0, 1 and 4 j does not matter.)» */
    private static void jDoesNotMatter() {
        for (int kind : new int[] {0, 1, 4}) {
            for (int i = 0; i < 3; i++) {
                HoundlightProofs x = new HoundlightProofs();
                x.begin(1, 0, 0, 0);
                for (int j = 0; j < 3; j++) {
                    x.guess(kind, i, j, 0);
                }
                for (int state = 0; state < 27; state++) {
                    int s = state;
                    boolean due = x.holds(0, state);
                    Check.same("KIND " + kind + " with j 1", due, () -> x.holds(1, s));
                    Check.same("KIND " + kind + " with j 2", due, () -> x.holds(2, s));
                }
                Check.same("but it is told", 3, () -> x.ofGuess(0, 2) + x.ofGuess(1, 2) + x.ofGuess(2, 2));
                String words = x.words(0);
                Check.same("and not in words", words, () -> x.words(2));
            }
        }
    }

    /** «6: if the GUESS with the number i holds, that with the number j holds» */
    private static void ifThen() {
        HoundlightProofs x = new HoundlightProofs();
        x.guess(0, 0, 0, 0);
        x.guess(0, 1, 1, 0);
        x.guess(6, 0, 1, 0);
        x.guess(6, 1, 0, 0);
        x.guess(6, 1, 1, 0);
        int both = Scenes.code(2, 0, 0, 0);
        int first = Scenes.code(2, 0, 1, 0);
        int second = Scenes.code(2, 1, 0, 0);
        int none = Scenes.code(2, 1, 1, 0);
        Check.same("both", true, () -> x.holds(2, both) && x.holds(3, both) && x.holds(4, both));
        Check.same("the first alone", false, () -> x.holds(2, first));
        Check.same("the other way", true, () -> x.holds(3, first));
        Check.same("the second alone", true, () -> x.holds(2, second));
        Check.same("the other way", false, () -> x.holds(3, second));
        Check.same("none", true, () -> x.holds(2, none) && x.holds(3, none));
        Check.same("itself", 125, () -> x.ofGuess(4, 9));
    }

    /** «(of KIND 6 by what those two say, struck or not)» */
    private static void struckOrNot() {
        HoundlightProofs x = new HoundlightProofs();
        x.guess(0, 0, 0, -1);
        x.guess(1, 0, 0, 1);
        x.guess(6, 0, 1, 0);
        x.run(0, 1);
        Check.same("both are struck, as neither HOLDS in START", 4L, x::standing);
        Check.same("x is -1", false, () -> x.holds(2, Scenes.code(2, -1, 0, 0)));
        Check.same("x is 0", true, () -> x.holds(2, 62));
        Check.same("x is 0, 1 or 2", 75, () -> x.ofGuess(2, 9));
        x.guess(6, 0, 1, 0);
        Check.same("told of struck ones", 75, () -> x.ofGuess(3, 9));
        Check.same("STANDING", 12L, x::standing);
    }

    /** «A GUESS is STANDING at first; it can be STRUCK, for good (until all is begun anew)» */
    private static void struckForGood() {
        HoundlightProofs x = Scenes.busy();
        Check.same("as told", "-1 0 1 2 -1", () -> by(x));
        Check.same("one and four stand", 18L, x::standing);
        x.guard(0, 0, 0, 0, -1);
        x.guard(1, 0, 0, 0, -1);
        x.sift();
        x.run(0, 1);
        Check.same("without STEPS they are still struck", 18L, x::standing);
        x.guess(0, 0, 0, 1);
        Check.same("a new one stands", 50L, x::standing);
        x.begin(1, 0, 1, 1);
        Check.same("begun anew", 63L, x::standing);
        Check.same("struck by nothing", "-1 -1 -1 -1 -1", () -> by(x));
        x.sift();
        Check.same("and by START again, where they do not HOLD", 45L, x::standing);
        Check.same("by START", 1, () -> x.ofGuess(1, 5));
    }

    private static String by(HoundlightProofs x) {
        StringBuilder by = new StringBuilder();
        for (int guess : new int[] {1, 0, 2, 3, 4}) {
            by.append(x.ofGuess(guess, 5)).append(' ');
        }
        return by.toString().trim();
    }

    /** «in each STATE (START too) each STANDING GUESS that does not HOLD is STRUCK (by a RUN, with that STATE)» */
    private static void startStrikesInRuns() {
        HoundlightProofs x = Scenes.follower();
        x.guess(1, 1, 1, 1);
        x.guess(1, 2, 2, 0);
        Check.same("one falls", 1, () -> x.run(0, 1));
        Check.same("by a RUN, not by START", 0, () -> x.ofGuess(0, 5));
        Check.same("with START", 13, () -> x.ofGuess(0, 6));
        Check.same("by no BRANCH", -1, () -> x.ofGuess(0, 7));
        Check.same("in no ROUND", 0, () -> x.ofGuess(0, 8));
        Check.same("the other one HOLDS", 2L, x::standing);
    }

    /** «each STANDING GUESS»: what is STRUCK is not STRUCK again, by whatever that is. */
    private static void standingOnesAreStruckOnce() {
        HoundlightProofs x = wide();
        Scenes.adding(x, 0, 1);
        x.guess(0, 0, 0, 0);
        x.guess(1, 0, 0, 1);
        x.guess(0, 0, 0, 1);
        x.sift();
        Check.same("all by sifting", "2 1 2", () -> x.ofGuess(0, 5) + " " + x.ofGuess(1, 5) + " " + x.ofGuess(2, 5));
        Check.same("none is left for a RUN", 0, () -> x.run(0, 60));
        Check.same("by a STEP still", 2, () -> x.ofGuess(0, 5));
        Check.same("by START still", 1, () -> x.ofGuess(1, 5));
        x.guess(0, 0, 0, 1);
        Check.same("a RUN", 1, () -> x.run(0, 60));
        Check.same("with the first STATE, not the later ones", Scenes.code(3, 2, 0, 0), () -> x.ofGuess(3, 6));
        x.sift();
        Check.same("by a RUN still", 0, () -> x.ofGuess(3, 5));
        Check.same("the first of all", 2, () -> x.ofGuess(0, 5));
        Check.same("by a STEP from there", Scenes.code(3, 0, -3, -3), () -> x.ofGuess(0, 6));
    }

    /** «if it is an END, the RUN is over» */
    private static void overInAnEnd() {
        HoundlightProofs x = new HoundlightProofs();
        x.guess(0, 0, 0, 0);
        Check.same("START is an END", 0, () -> x.run(0, 60));
        Check.same("it is over there", 62, () -> x.wouldEnd(0, 60));
        Scenes.adding(x, 0, 1);
        x.guard(0, 1, 0, 0, 0);
        Check.same("one STEP, then an END", 87, () -> x.wouldEnd(0, 60));
        Check.same("the END strikes, too", 1, () -> x.run(0, 60));
        Check.same("with that STATE", 87, () -> x.ofGuess(0, 6));
    }

    /** «the place (that number modulo how many are OPEN) of those that are OPEN, in their order .. (from 0 on)» */
    private static void placesOfThoseOpen() {
        HoundlightProofs x = wide();
        for (int place = 0; place < 6; place++) {
            Scenes.setting(x, 0, place - 3);
        }
        x.guard(0, 0, 0, 0, -1);
        x.guard(3, 0, 0, 0, -1);
        Check.same("of four seed 0 draws 17: place 1 is BRANCH 2", Scenes.code(3, -1, 0, 0), () -> x.wouldEnd(0, 1));
        Check.same("seed 1 draws 60: place 0 is the BRANCH 1", Scenes.code(3, -2, 0, 0), () -> x.wouldEnd(1, 1));
        Check.same("seed 3 draws 146: place 2 is the BRANCH 4", Scenes.code(3, 1, 0, 0), () -> x.wouldEnd(3, 1));
        Check.same("seed 2 draws 103: place 3 is the BRANCH 5", Scenes.code(3, 2, 0, 0), () -> x.wouldEnd(2, 1));
        x.guard(5, 0, 0, 0, -1);
        Check.same("of three: 17 is place 2, the BRANCH 4", Scenes.code(3, 1, 0, 0), () -> x.wouldEnd(0, 1));
        x.guard(4, 0, 0, 0, -1);
        x.guard(2, 0, 0, 0, -1);
        Check.same("of one: place 0", Scenes.code(3, -2, 0, 0), () -> x.wouldEnd(0, 1));
    }

    /** «It is over, too, behind as many STEPS as turns (the STATE in which it is over strikes, too).» */
    private static void overBehindItsTurns() {
        HoundlightProofs x = new HoundlightProofs();
        x.begin(3, -3, 0, 0);
        Scenes.adding(x, 0, 1);
        for (int c = -3; c < 3; c++) {
            x.guess(0, 0, 0, c);
        }
        Check.same("one turn: x is -2", Scenes.code(3, -2, 0, 0), () -> x.wouldEnd(0, 1));
        Check.same("x <= -3 falls there", 1, () -> x.run(0, 1));
        Check.same("with the STATE in which it is over", Scenes.code(3, -2, 0, 0), () -> x.ofGuess(0, 6));
        Check.same("three turns: x is 0", Scenes.code(3, 0, 0, 0), () -> x.wouldEnd(0, 3));
        Check.same("two more fall", 2, () -> x.run(0, 3));
        Check.same("the rest stands", 56L, x::standing);
        Check.same("sixty turns", 3, () -> x.run(0, 60));
    }

    /** «first all STANDING GUESSES that do not HOLD in START are STRUCK (by START)» */
    private static void startStrikesFirst() {
        HoundlightProofs x = Scenes.follower();
        x.guess(0, 0, 0, -1);
        x.guess(1, 1, 1, 0);
        x.guess(0, 0, 0, 0);
        Check.same("two ROUNDS", 2, x::sift);
        Check.same("x <= -1 by START, though STEPS break it", 1, () -> x.ofGuess(0, 5));
        Check.same("with START", 13, () -> x.ofGuess(0, 6));
        Check.same("by no BRANCH", -1, () -> x.ofGuess(0, 7));
        Check.same("in no ROUND", 0, () -> x.ofGuess(0, 8));
        Check.same("ahead of the first ROUND: a STEP from x = 0 strikes x <= 0", 2, () -> x.ofGuess(2, 5));
        Check.same("in the ROUND 1", 1, () -> x.ofGuess(2, 8));
        HoundlightProofs y = new HoundlightProofs();
        y.guess(0, 0, 0, -1);
        Check.same("what START strikes makes no ROUND", 1, y::sift);
        Check.same("by START", 1, () -> y.loop(5));
    }

    /** «STATE by STATE in which all STANDING GUESSES HOLD (as the ROUND began)» */
    private static void statesAsTheRoundBegan() {
        HoundlightProofs x = new HoundlightProofs();
        x.begin(1, 0, 0, 0);
        Scenes.adding(x, 0, 1);
        x.guard(0, 0, -1, 0, -1);
        x.guess(0, 0, 0, 0);
        x.guess(0, 1, 1, 0);
        Check.same("x goes up only where y is 1: nothing falls", 1, x::sift);
        Check.same("both are left", 3L, x::standing);
        Scenes.setting(x, 1, 1);
        x.guard(1, 0, 0, 1, -1);
        x.guess(1, 2, 2, 0);
        Check.same("y goes up only where z is -1: nothing falls", 1, x::sift);
        x.guard(1, 0, 0, 1, 0);
        Check.same("y goes up: y falls, then x, though (-1, 1, .) comes first", 3, x::sift);
        Check.same("y in the ROUND 1", 1, () -> x.ofGuess(1, 8));
        Check.same("x in the ROUND 2", 2, () -> x.ofGuess(0, 8));
        Check.same("from (0, 1, 0)", Scenes.code(1, 0, 1, 0), () -> x.ofGuess(0, 6));
    }

    /** «each GUESS that was STANDING as the ROUND began .. is STRUCK .., as the ROUND ends» */
    private static void struckAsTheRoundEnds() {
        HoundlightProofs x = new HoundlightProofs();
        x.begin(1, 0, 0, 0);
        Scenes.setting(x, 0, 1);
        x.guard(0, 1, 0, 0, -1);
        Scenes.setting(x, 2, 1);
        x.guard(1, -1, 0, 0, 0);
        x.guess(0, 0, 0, 0);
        x.guess(0, 2, 2, 0);
        x.guess(1, 2, 2, -1);
        Check.same("two ROUNDS", 2, x::sift);
        Check.same("x <= 0 falls from x = -1", Scenes.code(1, -1, -1, -1), () -> x.ofGuess(0, 6));
        Check.same("z <= 0 falls in the same ROUND", 1, () -> x.ofGuess(1, 8));
        Check.same("from where x <= 0 HOLDS", Scenes.code(1, 0, -1, -1), () -> x.ofGuess(1, 6));
        Check.same("the third is left", 4L, x::standing);
    }

    /** «with the first such STATE and BRANCH of that ROUND» */
    private static void firstStateAndBranch() {
        HoundlightProofs x = new HoundlightProofs();
        x.begin(1, 0, 0, 0);
        x.branch(0);
        Scenes.setting(x, 0, 1);
        Scenes.setting(x, 0, 1);
        x.guard(2, 0, 1, 0, -1);
        x.guard(1, 0, 0, 1, 0);
        x.guess(0, 0, 0, 0);
        x.guess(1, 1, 1, -1);
        Check.same("two ROUNDS", 2, x::sift);
        Check.same("the first STATE of all: 0", 0, () -> x.ofGuess(0, 6));
        Check.same("the first BRANCH there that breaks it", 1, () -> x.ofGuess(0, 7));
        x.guard(1, 0, -1, 0, -1);
        x.begin(1, 0, 0, 0);
        x.sift();
        Check.same("still the STATE 0", 0, () -> x.ofGuess(0, 6));
        Check.same("where the BRANCH 2 is OPEN alone", 2, () -> x.ofGuess(0, 7));
        x.guard(2, 0, 0, -1, -1);
        x.begin(1, 0, 0, 0);
        x.sift();
        Check.same("the STATE ahead of the BRANCH: z is 1", Scenes.code(1, -1, -1, 1), () -> x.ofGuess(0, 6));
        Check.same("by the BRANCH 2", 2, () -> x.ofGuess(0, 7));
    }

    /** «8 the ROUND in which that was, from 1 on»: of that SIFT, not of all there were. */
    private static void roundsAreToldAnew() {
        HoundlightProofs x = Scenes.follower();
        x.guess(0, 0, 0, 0);
        Check.same("two ROUNDS", 2, x::sift);
        x.guess(0, 0, 0, 0);
        x.guess(0, 0, 0, 0);
        Check.same("two more", 2, x::sift);
        Check.same("the ROUND 1", 1, () -> x.ofGuess(0, 8));
        Check.same("the ROUND 1 again", 1, () -> x.ofGuess(1, 8));
    }

    /** «A ROUND in which none is STRUCK is the last one.» */
    private static void lastRoundStrikesNone() {
        HoundlightProofs x = new HoundlightProofs();
        Check.same("without BRANCHES and GUESSES", 1, x::sift);
        x.begin(3, -3, -3, -3);
        for (int variable = 0; variable < 3; variable++) {
            Scenes.adding(x, variable, 1);
        }
        x.guard(1, -1, 0, 0, -3);
        x.guard(2, 0, -1, 0, -3);
        for (int guess = 0; guess < 18; guess++) {
            x.guess(0, guess / 6, 0, guess % 6 - 3);
        }
        Check.same("x, then y, then z goes up, a ROUND for each number", 19, x::sift);
        for (int guess = 0; guess < 18; guess++) {
            int g = guess;
            Check.same("the ROUND of " + g, g + 1, () -> x.ofGuess(g, 8));
        }
        Check.same("nothing is left to strike", 1, x::sift);
    }

    private static void tell(HoundlightProofs x, int variable, int[] guard, int[] update) {
        int branch = x.branch(variable);
        x.guard(branch, guard[0], guard[1], guard[2], guard[3]);
        x.update(branch, update[0], update[1], update[2], update[3]);
    }

    /**
     * First x and y go up by turns; then z goes up; where it is 3, x goes down again; then x leaves y behind, and last
     * z is -2 there. Each of these STEPS breaks the next one of 40 GUESSES, and it alone.
     */
    private static HoundlightProofs longestSift() {
        HoundlightProofs x = wide();
        x.begin(3, -3, -3, -3);
        tell(x, 1, new int[] {0, 0, 0, 0}, new int[] {0, 1, 0, 1});
        tell(x, 0, new int[] {1, -1, 0, -1}, new int[] {1, 0, 0, 1});
        tell(x, 2, new int[] {-1, -1, 0, -6}, new int[] {0, 0, 1, 1});
        tell(x, 0, new int[] {0, 0, -1, -3}, new int[] {1, 0, 0, -1});
        tell(x, 0, new int[] {1, 1, -2, -12}, new int[] {0, 1, 0, 1});
        tell(x, 0, new int[] {-1, 1, 0, -1}, new int[] {1, 0, 0, 1});
        tell(x, 2, new int[] {-1, 1, 0, -6}, new int[] {0, 0, 0, -2});
        for (int c = -6; c <= 5; c++) {
            x.guess(3, 0, 1, c);
        }
        for (int c = -3; c <= 2; c++) {
            x.guess(0, 2, 2, c);
        }
        for (int sum = 11; sum >= 1; sum--) {
            x.guess(6, sum, 17, 0);
        }
        for (int c = 0; c <= 5; c++) {
            x.guess(2, 0, 1, c);
        }
        x.guess(6, 14, 29, 0);
        for (int difference = 30; difference <= 33; difference++) {
            x.guess(6, 12, difference, 0);
        }
        return x;
    }

    /** «A ROUND in which none is STRUCK is the last one»: with 40 GUESSES there can be 41. */
    private static void eachOfFortyInItsOwnRound() {
        HoundlightProofs x = longestSift();
        Check.same("all but the last one fall, if that is left out", 0, () -> x.wouldKeep(39));
        Check.same("41 ROUNDS", 41, x::sift);
        Check.same("none is left", 0L, x::standing);
        Check.same("all by a STEP", 40, () -> x.loop(6));
        for (int guess = 0; guess < 40; guess++) {
            int g = guess;
            Check.same("the ROUND of " + g, g + 1, () -> x.ofGuess(g, 8));
        }
        Check.same("one more ROUND", 1, x::sift);
    }

    /** «(What is left then is KEPT by all STEPS, and HOLDS in START.)» */
    private static void whatIsLeftIsKept() {
        HoundlightProofs x = Scenes.follower();
        for (int kind = 0; kind < 6; kind++) {
            x.guess(kind, kind % 3, (kind + 1) % 3, kind % 2);
        }
        x.guess(6, 3, 0, 0);
        x.sift();
        Check.same("some are left", true, () -> x.loop(3) > 0 && x.loop(3) < 7);
        Check.same("all HOLD in START", 1, () -> x.ofState(13, 5));
        for (int state = 0; state < 27; state++) {
            for (int branch = 0; branch < 2; branch++) {
                int to = x.step(branch, state);
                if (to != -1 && x.ofState(state, 5) == 1) {
                    Check.same("all HOLD behind a STEP", 1, () -> x.ofState(to, 5));
                }
            }
        }
    }

    /** «GUESSES are SIFTED (not ahead of the first SIFT)» */
    private static void notSiftedAheadOfTheFirst() {
        HoundlightProofs x = new HoundlightProofs();
        Check.same("a new object", 0, () -> x.loop(13));
        x.call();
        Check.same("asked alone", 0, () -> x.loop(13));
        x.sift();
        Check.same("behind the first SIFT", 1, () -> x.loop(13));
    }

    private static void lets(String what, Check.Call call, HoundlightProofs x) {
        x.sift();
        Check.same("SIFTED ahead of " + what, 1, () -> x.loop(13));
        call.answer();
        Check.same("not behind " + what, 0, () -> x.loop(13));
    }

    /** «if since the last SIFT there was no begin(), branch(), guard(), update(), guess(), learn() and run()» */
    private static void siftedUntilSomethingIsLet() {
        HoundlightProofs x = Scenes.follower();
        lets("begin()", () -> x.begin(1, 0, 0, 0), x);
        lets("branch()", () -> x.branch(2), x);
        lets("guard()", () -> x.guard(2, 0, 0, 0, 0), x);
        lets("update()", () -> x.update(2, 0, 0, 1, 0), x);
        lets("guess()", () -> x.guess(0, 0, 0, 1), x);
        lets("learn()", () -> x.learn(0, 1), x);
        lets("run() that strikes none", () -> x.run(0, 1), x);
        x.guess(1, 2, 2, 1);
        x.run(0, 1);
        x.sift();
        Check.same("a SIFT behind them", 1, () -> x.loop(13));
    }

    /** «(that was let)»: what is asked, call() and refused calls leave them SIFTED. */
    private static void siftedStays() {
        HoundlightProofs x = Scenes.busy();
        Scenes.tour(x);
        x.call();
        x.isSound();
        x.lies(0);
        x.wouldEnd(0, 60);
        Check.same("behind what is asked", 1, () -> x.loop(13));
        Check.Call[] wrong = {() -> x.begin(0, 0, 0, 0), () -> x.branch(3), () -> x.guard(2, 0, 0, 0, 0),
            () -> x.update(2, 0, 0, 0, 0), () -> x.guess(7, 0, 0, 0), () -> x.learn(199, 1), () -> x.run(0, 61)};
        for (Check.Call call : wrong) {
            Check.same("it is refused", true, () -> isRefused(call));
        }
        Check.same("behind refused calls", 1, () -> x.loop(13));
    }

    private static boolean isRefused(Check.Call call) {
        try {
            call.answer();
            return false;
        } catch (IllegalArgumentException | IndexOutOfBoundsException thrown) {
            return true;
        }
    }
}
