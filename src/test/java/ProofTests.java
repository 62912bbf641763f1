/** Promises 15 to 17 and 21 to 25: goals, what is needed, the loop as a whole, and what would be. */
public final class ProofTests {
    private static final Class<IndexOutOfBoundsException> INDEX = IndexOutOfBoundsException.class;
    private static final Class<IllegalArgumentException> ARGUMENT = IllegalArgumentException.class;
    private static final Class<IllegalStateException> STATE = IllegalStateException.class;

    private ProofTests() {
    }

    public static void main(String[] args) {
        promise15();
        promise16();
        promise16Chain();
        promise17();
        promise17Falls();
        promise17Edges();
        stateZero();
        promise21();
        promise22();
        promise23();
        promise24();
        promise25();
        Check.end("ProofTests");
    }

    /** x goes up to 1 from 0, of -1 to 1; it is an END where x is 1. */
    private static HoundlightProofs climber() {
        HoundlightProofs x = new HoundlightProofs();
        x.begin(1, 0, 0, 0);
        x.branch(0);
        x.guard(0, 1, 0, 0, 0);
        x.update(0, 1, 0, 0, 1);
        return x;
    }

    private static void promise15() {
        HoundlightProofs x = climber();
        x.guess(1, 0, 0, 0);
        x.guess(0, 1, 1, 0);
        x.guess(1, 1, 1, 0);
        x.guess(0, 0, 0, 0);
        x.guess(1, 0, 0, 1);
        x.guess(0, 2, 2, -1);
        x.guess(6, 3, 2, 0);
        x.sift();
        Check.same("x >= 0, y <= 0, y >= 0 and the last are left", 71L, x::standing);
        int[][] due = {{1, 1, -1, -1, 1}, {1, 1, -1, -1, 1}, {1, 1, -1, -1, 1}, {0, 0, 21, 21, 0},
            {0, 1, 12, -1, 0}, {0, 0, 13, 22, 0}, {1, 1, -1, -1, 1}};
        for (int goal = 0; goal < 7; goal++) {
            int g = goal;
            for (int what = 0; what < 5; what++) {
                int w = what;
                Check.same("goal(" + g + ", " + w + ")", due[g][w], () -> x.goal(g, w));
            }
            for (int wrong : new int[] {-1, 5, Integer.MIN_VALUE, Integer.MAX_VALUE}) {
                Check.refused("goal of no what", ARGUMENT, x, () -> x.goal(g, wrong));
                Check.refused("goal of no GUESS, too", INDEX, x, () -> x.goal(7, wrong));
            }
        }
        for (int wrong : new int[] {-1, 7, Integer.MIN_VALUE, Integer.MAX_VALUE}) {
            Check.refused("goal of no GUESS", INDEX, x, () -> x.goal(wrong, 0));
        }
    }

    private static void promise16() {
        HoundlightProofs x = climber();
        Check.refused("needed of no GUESS, not SIFTED", INDEX, x, () -> x.needed(0));
        x.guess(1, 0, 0, 0);
        x.guess(1, 0, 0, -1);
        x.guess(0, 1, 1, 0);
        x.guess(0, 0, 0, 0);
        x.guess(1, 0, 0, 0);
        Check.refused("not SIFTED", STATE, x, () -> x.needed(0));
        x.sift();
        Check.same("x >= 0 by the first of the same", 1L, () -> x.needed(4));
        Check.same("x >= 0", 1L, () -> x.needed(0));
        Check.same("what is so everywhere needs none", 0L, () -> x.needed(1));
        Check.same("y <= 0 needs itself", 4L, () -> x.needed(2));
        Check.refused("not SAFE", STATE, x, () -> x.needed(3));
        Check.same("nothing is changed", 23L, x::standing);
        for (int wrong : new int[] {-1, 5, Integer.MIN_VALUE, Integer.MAX_VALUE}) {
            Check.refused("needed of no GUESS", INDEX, x, () -> x.needed(wrong));
        }
        x.guess(0, 0, 0, 1);
        Check.refused("not SIFTED any more", STATE, x, () -> x.needed(0));
    }

    /** y follows x, and z follows y: each of their limits is KEPT by the limit ahead of it alone. */
    private static void promise16Chain() {
        HoundlightProofs x = new HoundlightProofs();
        x.branch(1);
        x.update(0, 1, 0, 0, 0);
        x.branch(2);
        x.update(1, 0, 1, 0, 0);
        x.guess(0, 0, 0, 0);
        x.guess(0, 1, 1, 0);
        x.guess(0, 2, 2, 0);
        x.guess(1, 2, 2, 0);
        x.guess(0, 2, 2, 1);
        Check.same("sift", 2, x::sift);
        Check.same("z >= 0 falls", 23L, x::standing);
        Check.same("z <= 1 needs these three, as it is left out first", 7L, () -> x.needed(4));
        Check.same("z <= 0 too", 7L, () -> x.needed(2));
        Check.same("y <= 0 needs two", 3L, () -> x.needed(1));
        Check.same("x <= 0 needs itself", 1L, () -> x.needed(0));
    }

    private static void promise17() {
        HoundlightProofs x = climber();
        x.guess(0, 0, 0, 0);
        x.guess(0, 0, 0, 1);
        x.guess(1, 1, 1, 1);
        x.guess(1, 0, 0, 0);
        x.guess(1, 2, 2, 1);
        x.guess(1, 2, 2, 0);
        x.call();
        int[] before = {27, 1, 6, 6, 0, 0, 0, 9, 1, 2, 1, 1, 0, 0, 0, 1};
        int[] behind = {27, 1, 6, 3, 0, 2, 1, 9, 12, 2, 1, 1, 0, 1, 1, 1};
        for (int what = 0; what < 16; what++) {
            int w = what;
            Check.same("loop(" + w + ") at first", before[w], () -> x.loop(w));
        }
        x.sift();
        for (int what = 0; what < 16; what++) {
            int w = what;
            Check.same("loop(" + w + ") behind sift()", behind[w], () -> x.loop(w));
        }
        x.begin(1, 0, 0, 0);
        x.guess(0, 0, 0, 0);
        x.begin(1, 0, -1, 0);
        Check.same("a RUN strikes four", 4, () -> x.run(3, 1));
        x.begin(1, 0, 0, 0);
        Check.same("begun anew", 7, () -> x.loop(3));
        Check.same("by a RUN no more", 0, () -> x.loop(4));
        for (int wrong : new int[] {-1, 16, Integer.MIN_VALUE, Integer.MAX_VALUE}) {
            Check.refused("loop of no what", ARGUMENT, x, () -> x.loop(wrong));
        }
        HoundlightProofs y = climber();
        y.guess(1, 1, 1, 1);
        y.guess(1, 2, 2, 1);
        y.guess(0, 0, 0, 0);
        Check.same("a RUN strikes three", 3, () -> y.run(0, 1));
        y.guess(0, 0, 0, 1);
        y.guess(1, 0, 0, 1);
        y.guess(0, 0, 0, 0);
        y.guess(1, 0, 0, 0);
        y.sift();
        int[] mixed = {27, 1, 7, 2, 3, 1, 1, 9, 18, 2, 1, 1, 0, 1, 1, 0};
        for (int what = 0; what < 16; what++) {
            int w = what;
            Check.same("loop(" + w + ") behind all", mixed[w], () -> y.loop(w));
        }
    }

    private static void promise17Falls() {
        HoundlightProofs x = new HoundlightProofs();
        Check.same("no STEP: the smallest number", 0, () -> x.loop(12));
        x.branch(1);
        x.update(0, 0, 1, 0, -1);
        Check.same("where it changes nothing at -2, none", -1, () -> x.loop(12));
        x.guard(0, 0, -1, 0, 1);
        Check.same("y falls down to -2: -2 1 -2", 15, () -> x.loop(12));
        x.branch(2);
        x.update(1, 0, 0, 0, 1);
        x.guard(1, 0, 0, 1, 0);
        Check.same("z goes up: -2 1 -2", 15, () -> x.loop(12));
        x.branch(0);
        x.update(2, 1, 0, 0, -1);
        x.guard(2, -1, 0, 0, 1);
        Check.same("x falls: 1 1 -2", 90, () -> x.loop(12));
        x.guard(2, 0, 0, 0, -1);
        Check.same("x stays: -2 1 -2", 15, () -> x.loop(12));
        x.guard(2, 0, -1, 0, -1);
        Check.same("only where y is 1, which is not FOUND", 15, () -> x.loop(12));
        x.branch(2);
        x.update(3, 0, 0, 1, -1);
        x.guard(3, 0, 0, -1, -1);
        Check.same("z up and down: none", -1, () -> x.loop(12));
    }

    /** The greatest SOON in the STATE 0, and the greatest changes, up and down. */
    private static void promise17Edges() {
        HoundlightProofs x = new HoundlightProofs();
        x.begin(1, 1, -1, -1);
        x.branch(0);
        x.update(0, 1, 0, 0, -1);
        Check.same("two STEPS down to the STATE 0", 2, () -> x.loop(11));
        Check.same("three are FOUND", 3, () -> x.loop(9));
        x.guard(0, -1, 0, 0, 0);
        Check.same("OPEN at 0, it still goes there", 2, () -> x.loop(11));
        x.guard(0, -1, 0, 0, -1);
        Check.same("a GUARD changes what is FOUND", 2, () -> x.loop(9));
        Check.same("and the greatest SOON", 1, () -> x.loop(11));
        HoundlightProofs y = new HoundlightProofs();
        y.begin(3, 3, 0, 0);
        y.branch(0);
        y.guard(0, -1, 0, 0, -3);
        y.update(0, 0, 0, 0, -3);
        Check.same("6 down: 1 -2 -2", 75, () -> y.loop(12));
        y.branch(0);
        y.guard(1, 1, 0, 0, -3);
        y.update(1, 1, 0, 0, 1);
        Check.same("and 1 up: none", -1, () -> y.loop(12));
        y.update(1, 0, 0, 0, 5);
        Check.same("and 6 up: none", -1, () -> y.loop(12));
        y.update(0, 1, 0, 0, -1);
        y.guard(0, -1, 0, 0, 2);
        Check.same("1 down and 6 up: none", -1, () -> y.loop(12));
        y.guard(0, 0, 0, 0, -1);
        Check.same("no STEP from START any more", 0, () -> y.loop(12));
    }

    /** The STATE 0 counts as any other one. */
    private static void stateZero() {
        HoundlightProofs x = new HoundlightProofs();
        x.begin(1, -1, -1, -1);
        x.branch(2);
        x.guard(0, 1, 1, 1, -3);
        x.update(0, 0, 0, 0, 0);
        x.guess(0, 2, 2, -1);
        x.guess(1, 2, 2, 0);
        x.guess(0, 0, 0, 0);
        Check.same("z goes up there: -2 -2 -2", 0, () -> x.loop(12));
        Check.same("z >= 0 is a lie there", 1, () -> x.lies(1));
        Check.same("z <= -1 would fall by it", 1, () -> x.wouldKeep(1));
        Check.same("the WITNESS 0 against nothing", 1, () -> x.goal(0, 0));
        x.sift();
        Check.same("z <= -1 falls by it", 0, () -> x.ofGuess(0, 6));
        Check.same("the WITNESS is 0", 0, () -> x.goal(1, 2));
        Check.same("the WITNESS that is an END is not", 3, () -> x.goal(1, 3));
        x.update(0, 0, 0, 0, -1);
        Check.same("a STEP that changes nothing there: no FALL", -1, () -> x.loop(12));
    }

    private static void promise21() {
        HoundlightProofs x = climber();
        x.branch(1);
        x.update(1, 1, 0, 0, 0);
        x.guess(1, 0, 0, 0);
        x.guess(1, 1, 1, 0);
        x.guess(0, 0, 0, 0);
        x.guess(1, 2, 2, 1);
        Check.same("not SIFTED: without x >= 0 nothing is KEPT", 0, () -> x.wouldKeep(0));
        Check.same("without y >= 0", 1, () -> x.wouldKeep(1));
        Check.same("without x <= 0", 2, () -> x.wouldKeep(2));
        Check.same("without z >= 1", 2, () -> x.wouldKeep(3));
        Check.same("nothing is changed", 15L, x::standing);
        Check.same("nor called", 0, () -> x.loop(14));
        x.sift();
        Check.same("without a struck one", 2, () -> x.wouldKeep(2));
        Check.same("without x >= 0", 0, () -> x.wouldKeep(0));
        Check.same("still SIFTED", 1, () -> x.loop(13));
        for (int wrong : new int[] {-1, 4, Integer.MIN_VALUE, Integer.MAX_VALUE}) {
            Check.refused("wouldKeep of no GUESS", INDEX, x, () -> x.wouldKeep(wrong));
        }
    }

    private static void promise22() {
        HoundlightProofs x = new HoundlightProofs();
        x.branch(0);
        x.update(0, 1, 0, 0, 1);
        x.guess(0, 0, 0, 1);
        x.guess(0, 0, 0, -1);
        x.guess(0, 1, 1, 0);
        x.guess(1, 1, 1, 1);
        Check.same("x is 2", 1, () -> x.lies(0));
        Check.same("everywhere", 3, () -> x.lies(1));
        Check.same("nowhere", 0, () -> x.lies(2));
        Check.same("y never is 1", 3, () -> x.lies(3));
        x.sift();
        Check.same("struck or not", 3, () -> x.lies(1));
        for (int wrong : new int[] {-1, 4, Integer.MIN_VALUE, Integer.MAX_VALUE}) {
            Check.refused("lies of no GUESS", INDEX, x, () -> x.lies(wrong));
        }
    }

    private static void promise23() {
        HoundlightProofs x = new HoundlightProofs();
        x.begin(3, -3, 0, 0);
        Check.same("over at once", 24, () -> x.wouldEnd(0, 60));
        x.branch(0);
        x.update(0, 1, 0, 0, 1);
        x.guard(0, 1, 0, 0, 1);
        x.guess(0, 0, 0, -3);
        x.sift();
        Check.same("one turn", 73, () -> x.wouldEnd(0, 1));
        Check.same("four turns", 220, () -> x.wouldEnd(198, 4));
        Check.same("over in an END", 269, () -> x.wouldEnd(198, 60));
        Check.same("nothing is struck", 0, () -> x.loop(4));
        Check.same("still SIFTED", 1, () -> x.loop(13));
        int[][] wrong = {{-1, 1}, {199, 1}, {0, 0}, {0, 61}, {Integer.MIN_VALUE, 1}, {Integer.MAX_VALUE, 1},
            {0, Integer.MIN_VALUE}, {0, Integer.MAX_VALUE}};
        for (int[] w : wrong) {
            Check.refused("wouldEnd of wrong numbers", ARGUMENT, x, () -> x.wouldEnd(w[0], w[1]));
        }
    }

    private static void promise24() {
        HoundlightProofs x = new HoundlightProofs();
        Check.same("new", true, x::isSound);
        HoundlightProofs y = climber();
        y.guess(0, 0, 0, 0);
        y.guess(1, 0, 0, 1);
        y.guess(6, 0, 1, 0);
        Check.same("not SIFTED, so nothing is asked of those STANDING", true, y::isSound);
        y.run(0, 60);
        Check.same("struck by a RUN", true, y::isSound);
        y.sift();
        Check.same("SIFTED", true, y::isSound);
        y.guard(0, 0, 0, 0, -1);
        y.begin(3, 3, 3, 3);
        y.sift();
        Check.same("struck by START", true, y::isSound);
        Check.same("SIFTED", 1, () -> y.loop(13));
    }

    /** The numbers of a new object by hand; with GUESSES and BRANCHES by the answers, in their order. */
    private static void promise25() {
        HoundlightProofs x = new HoundlightProofs();
        long[] fresh = {125, 0, 0, 0, 0, 0, 0, 125, 125, 1, 1, 0, 0, 0, 0, 0, 0, 62, 62, 64, 1};
        long d = 6029;
        for (long v : fresh) {
            d = d * 31 + v;
        }
        Check.same("digest of a new object", d, x::digest);
        HoundlightProofs y = new HoundlightProofs();
        y.begin(3, -3, -3, -3);
        y.branch(0);
        y.update(0, 1, 0, 0, 1);
        y.branch(1);
        y.update(1, 0, 1, 0, 1);
        y.branch(2);
        y.update(2, 0, 0, 1, 1);
        y.guess(0, 0, 0, 3);
        y.guess(0, 1, 1, 0);
        y.guess(1, 2, 2, 1);
        y.sift();
        long e = 6029;
        for (int what = 0; what < 16; what++) {
            e = e * 31 + y.loop(what);
        }
        for (int guess = 0; guess < 3; guess++) {
            for (int what = 0; what < 10; what++) {
                e = e * 31 + y.ofGuess(guess, what);
            }
            for (int what = 0; what < 5; what++) {
                e = e * 31 + y.goal(guess, what);
            }
            e = e * 31 + y.lies(guess);
        }
        long[] rest = {49, 7, 1, 1, y.wouldEnd(1, 1), y.wouldEnd(9, 9), 21, 1};
        Check.same("one turn is not two", true, () -> y.wouldEnd(1, 1) != y.wouldEnd(1, 2));
        Check.same("nine are not ten", true, () -> y.wouldEnd(9, 9) != y.wouldEnd(9, 10));
        Check.same("seed 9 is not seed 10", true, () -> y.wouldEnd(9, 9) != y.wouldEnd(10, 9));
        Check.same("seed 1 is not seed 2", true, () -> y.wouldEnd(1, 1) != y.wouldEnd(2, 1));
        for (long v : rest) {
            e = e * 31 + v;
        }
        Check.same("digest", e, y::digest);
        Check.same("once more", e, y::digest);
    }
}
