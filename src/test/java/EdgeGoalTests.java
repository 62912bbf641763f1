/** One method for each sentence of the Terms 6 (goals) that names an edge; it stands above the method. */
public final class EdgeGoalTests {
    private EdgeGoalTests() {
    }

    public static void main(String[] args) {
        goalsMayBeStruck();
        safeWhereAllStandingHold();
        doneInEndsAlone();
        safeWhereNothingHolds();
        witnessIsTheFirst();
        witnessInTheFirstAndLastState();
        neededFromTheGreatestOn();
        neededGoesByWhatIsKept();
        neededIsKeptItself();
        neededOfNothing();
        neededChangesNothing();
        startIsFound();
        soonIsTheFewest();
        greatestSoonThereCanBe();
        trueWhereFound();
        fallsBecomeLess();
        fallsOfStepsThatStay();
        fallsOfFoundStatesAlone();
        fallsFromTheFirstState();
        fallsByTheGreatestChanges();
        firstFallIsTheSmallest();
        fallWithoutSteps();
        houndCounts();
        Check.end("EdgeGoalTests");
    }

    private static HoundlightProofs small() {
        HoundlightProofs x = new HoundlightProofs();
        x.begin(1, 0, 0, 0);
        return x;
    }

    private static void goal(HoundlightProofs x, int goal, int safe, int done, int against, int againstDone, int so) {
        int[] due = {safe, done, against, againstDone, so};
        for (int what = 0; what < 5; what++) {
            int w = what;
            Check.same("goal(" + goal + ", " + w + ")", due[what], () -> x.goal(goal, w));
        }
    }

    /** «A GOAL is a GUESS (by its number; STANDING or not).» */
    private static void goalsMayBeStruck() {
        HoundlightProofs x = Scenes.follower();
        x.guess(1, 0, 0, 0);
        x.guess(1, 0, 0, 1);
        x.guess(1, 0, 0, -1);
        x.sift();
        x.guess(6, 1, 0, 0);
        Check.same("the second is struck", 13L, x::standing);
        goal(x, 0, 1, 1, -1, -1, 1);
        goal(x, 1, 0, 1, Scenes.code(1, 0, -1, -1), -1, 0);
        goal(x, 2, 1, 1, -1, -1, 1);
        x.sift();
        Check.same("struck, but not NEEDED: it is not SAFE", "no", () -> neededOrNo(x, 1));
        x.begin(1, 1, 0, 0);
        x.guess(0, 0, 0, 0);
        x.sift();
        Check.same("x <= 0 is struck", 15L, x::standing);
        x.guess(1, 1, 1, 1);
        x.guess(6, 1, 4, 0);
        x.guess(0, 0, 0, 1);
        x.sift();
        Check.same("by START, y >= 1 and what follows", 143L, x::standing);
    }

    private static String neededOrNo(HoundlightProofs x, int goal) {
        try {
            return "" + x.needed(goal);
        } catch (IllegalStateException thrown) {
            return "no";
        }
    }

    /** «SAFE: it HOLDS in each STATE in which all GUESSES that are STANDING HOLD.» */
    private static void safeWhereAllStandingHold() {
        HoundlightProofs x = small();
        x.guess(0, 0, 0, 0);
        x.guess(1, 0, 0, 0);
        x.guess(3, 0, 1, 1);
        x.guess(2, 0, 1, 0);
        goal(x, 3, 1, 1, -1, -1, 1);
        Check.same("x is 0 and y no less", 6, () -> x.loop(8));
        x.begin(1, 0, -1, 0);
        x.sift();
        Check.same("x - y <= 0 is struck", 7L, x::standing);
        goal(x, 2, 1, 1, -1, -1, 1);
        goal(x, 3, 0, 0, Scenes.code(1, 0, -1, -1), Scenes.code(1, 0, -1, -1), 0);
        x.begin(1, 1, 0, 0);
        x.sift();
        Check.same("x >= 0 and x + y <= 1 are left", 6L, x::standing);
        goal(x, 0, 0, 0, Scenes.code(1, 1, -1, -1), Scenes.code(1, 1, -1, -1), 0);
    }

    /** «DONE: likewise, but only in such STATES that are ENDS.» */
    private static void doneInEndsAlone() {
        HoundlightProofs x = Scenes.follower();
        x.guess(1, 0, 0, 0);
        x.guess(1, 0, 0, 1);
        x.guess(0, 0, 0, 0);
        x.sift();
        Check.same("x >= 0 is left; ENDS are where x is 1", 1L, x::standing);
        goal(x, 1, 0, 1, Scenes.code(1, 0, -1, -1), -1, 0);
        goal(x, 2, 0, 0, Scenes.code(1, 1, -1, -1), Scenes.code(1, 1, -1, -1), 0);
        x.guard(0, 0, 0, 0, 0);
        x.guard(1, 0, 0, 0, 0);
        Check.same("no ENDS", 0, () -> x.loop(7));
        goal(x, 2, 0, 1, Scenes.code(1, 1, -1, -1), -1, 0);
    }

    /** SAFE and DONE, where there is no «STATE in which all GUESSES that are STANDING HOLD» */
    private static void safeWhereNothingHolds() {
        HoundlightProofs x = small();
        x.guess(0, 0, 0, -1);
        x.guess(1, 0, 0, 1);
        x.guess(1, 1, 1, 1);
        Check.same("nowhere", 0, () -> x.loop(8));
        for (int guess = 0; guess < 3; guess++) {
            goal(x, guess, 1, 1, -1, -1, 0);
        }
        x.sift();
        Check.same("all are struck: everywhere", 27, () -> x.loop(8));
        goal(x, 2, 0, 0, 0, 0, 0);
        goal(x, 0, 0, 0, Scenes.code(1, 0, -1, -1), Scenes.code(1, 0, -1, -1), 0);
    }

    /** «The WITNESS against it: the first such STATE in which it does not HOLD.» */
    private static void witnessIsTheFirst() {
        HoundlightProofs x = small();
        x.branch(0);
        x.guard(0, 0, 1, 0, 0);
        x.guess(1, 2, 2, 0);
        x.guess(0, 0, 0, -1);
        x.sift();
        Check.same("z >= 0 is left; ENDS are where y is 1", 1L, x::standing);
        goal(x, 1, 0, 0, Scenes.code(1, 0, -1, 0), Scenes.code(1, 0, 1, 0), 0);
        x.guard(0, 0, 0, -1, -1);
        goal(x, 1, 0, 0, Scenes.code(1, 0, -1, 0), Scenes.code(1, 0, -1, 0), 0);
        x.guard(0, 0, 0, 1, 0);
        goal(x, 1, 0, 0, Scenes.code(1, 0, -1, 0), Scenes.code(1, 0, -1, 1), 0);
    }

    /** A WITNESS with the code 0 is not NONE, and the last STATE can be one. */
    private static void witnessInTheFirstAndLastState() {
        HoundlightProofs x = small();
        int first = x.guess(1, 0, 0, 0);
        goal(x, first, 1, 1, -1, -1, 1);
        x.begin(1, -1, 0, 0);
        x.sift();
        goal(x, first, 0, 0, 0, 0, 0);
        HoundlightProofs y = small();
        y.begin(1, 1, 1, 1);
        y.guess(1, 0, 0, 1);
        y.guess(1, 1, 1, 1);
        y.guess(1, 2, 2, 1);
        y.guess(0, 0, 0, 0);
        y.sift();
        Check.same("one STATE", 1, () -> y.loop(8));
        goal(y, 3, 0, 0, 26, 26, 0);
    }

    /** «begin with all that are STANDING; number by number from the greatest one on: if it is left out ..» */
    private static void neededFromTheGreatestOn() {
        HoundlightProofs x = small();
        x.guess(0, 0, 0, 0);
        x.guess(0, 0, 0, 0);
        x.guess(0, 0, 0, 0);
        x.guess(0, 1, 1, 0);
        x.guess(3, 0, 1, 0);
        x.sift();
        Check.same("the smallest of the same", 1L, () -> x.needed(2));
        Check.same("the goal itself is left out", 9L, () -> x.needed(4));
        Check.same("or stays, as it is the smallest", 1L, () -> x.needed(0));
        HoundlightProofs y = small();
        y.guess(3, 0, 1, 0);
        y.guess(0, 0, 0, 0);
        y.guess(0, 1, 1, 0);
        y.sift();
        Check.same("the other order", 1L, () -> y.needed(0));
    }

    /** «and what is KEPT of the others (by SIFTING just those) still makes the GOAL SAFE» */
    private static void neededGoesByWhatIsKept() {
        HoundlightProofs x = small();
        x.branch(0);
        x.update(0, 0, 1, 0, 0);
        x.branch(1);
        x.update(1, 0, 0, 1, 0);
        x.guess(0, 0, 0, 0);
        x.guess(0, 1, 1, 0);
        x.guess(0, 2, 2, 0);
        x.sift();
        Check.same("x <= 0 is KEPT by y <= 0, and that by z <= 0", 7L, () -> x.needed(0));
        Check.same("y <= 0 by z <= 0", 6L, () -> x.needed(1));
        Check.same("z <= 0 by itself", 4L, () -> x.needed(2));
        x.guess(0, 2, 2, 0);
        x.sift();
        Check.same("the last one is left out, as the third does", 7L, () -> x.needed(0));
        Check.same("it HOLDS by the third", 4L, () -> x.needed(3));
    }

    /** «these are what is left; otherwise it stays»: what is NEEDED is KEPT, and makes the GOAL SAFE. */
    private static void neededIsKeptItself() {
        HoundlightProofs x = small();
        x.branch(0);
        x.update(0, 0, 1, 0, 0);
        x.guess(0, 0, 0, 0);
        x.guess(1, 0, 0, 0);
        x.guess(1, 1, 1, 0);
        x.guess(0, 1, 1, 0);
        x.guess(5, 0, 1, 0);
        x.sift();
        Check.same("x <= 0 and y <= 0", 9L, () -> x.needed(0));
        Check.same("x >= 0 and y >= 0", 6L, () -> x.needed(1));
        Check.same("all but the goal", 15L, () -> x.needed(4));
        HoundlightProofs y = small();
        y.guess(0, 0, 0, 0);
        y.guess(1, 0, 0, 0);
        y.guess(4, 0, 0, 0);
        y.sift();
        Check.same("x is 0: by the first two", 3L, () -> y.needed(2));
    }

    /** «if it is left out»: where nothing is NEEDED, all are left out. */
    private static void neededOfNothing() {
        HoundlightProofs x = small();
        x.guess(0, 0, 0, 1);
        x.guess(0, 1, 1, 0);
        x.sift();
        Check.same("x <= 1 HOLDS everywhere", 0L, () -> x.needed(0));
        x.begin(1, 0, 1, 0);
        x.sift();
        Check.same("y <= 0 is struck", 1L, x::standing);
        Check.same("none still", 0L, () -> x.needed(0));
        Check.same("a struck one is not SAFE here", "no", () -> neededOrNo(x, 1));
    }

    /** «NEEDED» is asked: nothing is STRUCK by it. */
    private static void neededChangesNothing() {
        HoundlightProofs x = Scenes.busy();
        String before = Scenes.tour(x);
        HoundlightProofs y = Scenes.busy();
        y.needed(1);
        y.needed(4);
        y.wouldKeep(1);
        Check.same("all answers", before, () -> Scenes.tour(y));
    }

    /** «FOUND: what can be reached from START by STEPS.» START by none. */
    private static void startIsFound() {
        HoundlightProofs x = small();
        Check.same("without BRANCHES, START alone", 1, () -> x.loop(9));
        Check.same("its SOON", 0, () -> x.ofState(13, 6));
        Check.same("the greatest SOON", 0, () -> x.loop(11));
        Scenes.adding(x, 0, -1);
        x.guard(0, 0, 0, 0, -1);
        Check.same("a closed BRANCH", 1, () -> x.loop(9));
        x.guard(0, 0, 0, 0, 0);
        Check.same("an OPEN one", 2, () -> x.loop(9));
        x.update(0, -1, 0, 0, 1);
        Check.same("x is 1 less x: back to START", 0, () -> x.ofState(13, 6));
        x.begin(1, -1, 0, 0);
        Check.same("from -1 to 1 to 0 to 1", 3, () -> x.loop(9));
        x.begin(3, 0, 0, 0);
        Check.same("from 0 to 1 to 0", 2, () -> x.loop(9));
    }

    /** «SOON of a STATE: the fewest STEPS to it (NONE).» */
    private static void soonIsTheFewest() {
        HoundlightProofs x = new HoundlightProofs();
        x.begin(3, 0, 0, 0);
        Scenes.adding(x, 0, 1);
        Scenes.setting(x, 0, 3);
        int[] due = {-1, -1, -1, 0, 1, 2, 1};
        for (int number = -3; number <= 3; number++) {
            int state = Scenes.code(3, number, 0, 0);
            Check.same("SOON of x = " + number, due[number + 3], () -> x.ofState(state, 6));
        }
        Check.same("y is never 1", -1, () -> x.ofState(Scenes.code(3, 0, 1, 0), 6));
        Check.same("the greatest", 2, () -> x.loop(11));
        x.branch(1);
        x.update(2, 1, 0, 0, 0);
        Check.same("y is 2 by x", 3, () -> x.ofState(Scenes.code(3, 2, 2, 0), 6));
        Check.same("or behind it", 4, () -> x.ofState(Scenes.code(3, 3, 2, 0), 6));
    }

    /** Each of 343 STATES can be FOUND. */
    private static void greatestSoonThereCanBe() {
        HoundlightProofs x = new HoundlightProofs();
        x.begin(3, -3, -3, -3);
        for (int variable = 0; variable < 3; variable++) {
            Scenes.adding(x, variable, 1);
        }
        Check.same("all STATES are FOUND", 343, () -> x.loop(9));
        Check.same("the last one by 18 STEPS", 18, () -> x.loop(11));
        Check.same("the last one", 18, () -> x.ofState(342, 6));
        Check.same("the first one", 0, () -> x.ofState(0, 6));
        HoundlightProofs y = new HoundlightProofs();
        y.begin(3, 3, 3, 3);
        for (int variable = 0; variable < 3; variable++) {
            Scenes.adding(y, variable, -1);
        }
        Check.same("down to the STATE 0", 18, () -> y.ofState(0, 6));
        Check.same("which alone is that far", 18, () -> y.loop(11));
    }

    /** «A GOAL is TRUE, if it HOLDS in each STATE that is FOUND.» */
    private static void trueWhereFound() {
        HoundlightProofs x = Scenes.follower();
        x.guess(1, 0, 0, 0);
        x.guess(0, 0, 0, 0);
        x.guess(0, 1, 1, 0);
        x.guess(2, 1, 0, 0);
        Check.same("x >= 0", 1, () -> x.goal(0, 4));
        Check.same("x <= 0 is a lie where x is 1", 0, () -> x.goal(1, 4));
        Check.same("y <= 0: an END stops y", 1, () -> x.goal(2, 4));
        Check.same("y - x <= 0", 1, () -> x.goal(3, 4));
        x.begin(1, -1, 0, 0);
        Check.same("in START not", 0, () -> x.goal(0, 4));
        Check.same("SAFE is not TRUE, ahead of a SIFT", "1 0", () -> x.goal(0, 0) + " " + x.goal(0, 4));
    }

    /** «so that the sum of COEFFICIENT * number becomes less with each STEP»: the same is not less. */
    private static void fallsBecomeLess() {
        HoundlightProofs x = small();
        Scenes.adding(x, 0, 1);
        x.guard(0, 1, 0, 0, 0);
        Check.same("x goes up: -2 -2 -2", 0, () -> x.loop(12));
        x.branch(1);
        x.update(1, 0, 0, 0, -1);
        x.guard(1, 0, -1, 0, 0);
        Check.same("y goes down: -2 1 -2", 15, () -> x.loop(12));
        x.branch(0);
        x.update(2, 0, 0, 0, 0);
        x.guard(2, -1, 0, 0, -1);
        Check.same("x goes down, too: none", -1, () -> x.loop(12));
    }

    /** «becomes less with each STEP»: a STEP that changes nothing leaves none. */
    private static void fallsOfStepsThatStay() {
        HoundlightProofs x = small();
        x.branch(2);
        Check.same("z stays", -1, () -> x.loop(12));
        x.guard(0, 0, 0, 0, -1);
        Check.same("closed", 0, () -> x.loop(12));
        Scenes.adding(x, 0, 1);
        Check.same("x stays at 1", -1, () -> x.loop(12));
        x.guard(1, 1, 0, 0, 0);
        Check.same("closed there", 0, () -> x.loop(12));
    }

    /** «with each STEP from a STATE that is FOUND» */
    private static void fallsOfFoundStatesAlone() {
        HoundlightProofs x = small();
        Scenes.adding(x, 2, -1);
        x.guard(0, 0, 0, -1, 0);
        Check.same("z goes down: -2 -2 1", 3, () -> x.loop(12));
        Scenes.adding(x, 2, 1);
        x.guard(1, 0, -1, 0, -1);
        Check.same("and up, where y is 1", 3, () -> x.loop(12));
        x.begin(1, 0, 1, 0);
        Check.same("begun there: none", -1, () -> x.loop(12));
        x.begin(1, 0, -1, 0);
        Check.same("and not", 3, () -> x.loop(12));
    }

    /** «each STEP from a STATE that is FOUND»: the STATE 0 is one. */
    private static void fallsFromTheFirstState() {
        HoundlightProofs x = small();
        x.begin(1, -1, -1, -1);
        Scenes.setting(x, 0, 0);
        x.guard(0, 1, 0, 0, -1);
        Scenes.setting(x, 0, -1);
        x.guard(1, -1, 0, 0, 0);
        Check.same("x goes up from there alone, and down again: none", -1, () -> x.loop(12));
        x.guard(1, 0, 0, 0, -1);
        Check.same("up alone", 0, () -> x.loop(12));
        Check.same("two are FOUND", 2, () -> x.loop(9));
    }

    /** «the sum .. becomes less with each STEP»: a STEP changes a number by 6 at most. */
    private static void fallsByTheGreatestChanges() {
        HoundlightProofs x = new HoundlightProofs();
        x.begin(3, 3, 3, 3);
        Scenes.setting(x, 1, -3);
        x.guard(0, 0, -1, 0, -3);
        Check.same("6 down: -2 1 -2", 15, () -> x.loop(12));
        Scenes.setting(x, 1, 3);
        x.guard(1, 0, 1, 0, -3);
        Check.same("and 6 up: none", -1, () -> x.loop(12));
        x.guard(0, 0, 0, 0, -1);
        x.begin(3, 3, -3, 3);
        Check.same("6 up alone", 0, () -> x.loop(12));
        Scenes.adding(x, 1, -1);
        x.guard(2, 0, -1, 0, -3);
        Check.same("and 1 down: none", -1, () -> x.loop(12));
    }

    /** «each and 2, as digits to the base 5 ..; the FIRST FALL is that with the smallest number» */
    private static void firstFallIsTheSmallest() {
        int[] weights = {25, 5, 1};
        for (int down = 0; down < 8; down++) {
            HoundlightProofs x = new HoundlightProofs();
            int due = 0;
            for (int variable = 0; variable < 3; variable++) {
                boolean falls = (down >> variable & 1) == 1;
                int sign = falls ? -1 : 1;
                Scenes.adding(x, variable, sign);
                x.guard(variable, variable == 0 ? sign : 0, variable == 1 ? sign : 0, variable == 2 ? sign : 0, 1);
                due += falls ? 3 * weights[variable] : 0;
            }
            Check.same("the FIRST FALL of " + down, due, () -> x.loop(12));
        }
    }

    /** Without a STEP each three COEFFICIENTS are a FALL: the smallest number is 0. */
    private static void fallWithoutSteps() {
        HoundlightProofs x = small();
        Check.same("without BRANCHES", 0, () -> x.loop(12));
        x.branch(0);
        x.guard(0, 1, 0, 0, -1);
        Check.same("START is an END", 0, () -> x.loop(12));
    }

    /** «The HOUND sleeps: who calls holds no bone, and is REFUSED (counted).» */
    private static void houndCounts() {
        HoundlightProofs x = small();
        Check.same("none at first", 0, () -> x.loop(15));
        Check.same("the first", 1, x::call);
        x.begin(2, 0, 0, 0);
        x.sift();
        Check.same("counted ever", 2, x::call);
        Check.same("loop(15)", 2, () -> x.loop(15));
        Check.same("no other one counts", 2, () -> x.loop(15));
    }
}
