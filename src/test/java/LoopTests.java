/** Promises 1 to 5 and 13 and 14: the loop, its states and its steps. */
public final class LoopTests {
    private static final Class<IndexOutOfBoundsException> INDEX = IndexOutOfBoundsException.class;
    private static final Class<IllegalArgumentException> ARGUMENT = IllegalArgumentException.class;
    private static final Class<IllegalStateException> STATE = IllegalStateException.class;

    private LoopTests() {
    }

    public static void main(String[] args) {
        promise1();
        promise2();
        promise2Anew();
        promise3();
        promise4();
        promise5();
        promise13();
        promise14();
        Check.end("LoopTests");
    }

    private static void promise1() {
        HoundlightProofs x = new HoundlightProofs();
        int[] due = {125, 0, 0, 0, 0, 0, 0, 125, 125, 1, 1, 0, 0, 0, 0, 0};
        for (int what = 0; what < due.length; what++) {
            int asked = what;
            Check.same("new: loop(" + what + ")", due[what], () -> x.loop(asked));
        }
        Check.same("new: standing", 0L, x::standing);
        Check.same("new: part", 1.0, x::part);
        Check.same("new: START is 0 0 0", 0, () -> x.ofState(62, 6));
        HoundlightProofs other = new HoundlightProofs();
        other.branch(0);
        other.guess(0, 0, 0, 0);
        other.call();
        Check.same("a second object is its own", 0, () -> x.loop(1) + x.loop(2) + x.loop(15));
    }

    private static void promise2() {
        HoundlightProofs x = new HoundlightProofs();
        Check.same("begin(1, least)", 0, () -> x.begin(1, -1, -1, -1));
        Check.same("27 STATES", 27, () -> x.loop(0));
        Check.same("begin(1, greatest)", 26, () -> x.begin(1, 1, 1, 1));
        Check.same("begin(2, 1, -2, 0)", 77, () -> x.begin(2, 1, -2, 0));
        Check.same("125 STATES", 125, () -> x.loop(0));
        Check.same("begin(2, -2, 2, -1)", 21, () -> x.begin(2, -2, 2, -1));
        Check.same("begin(3, greatest)", 342, () -> x.begin(3, 3, 3, 3));
        Check.same("343 STATES", 343, () -> x.loop(0));
        Check.same("begin(3, -3, 0, 2)", 26, () -> x.begin(3, -3, 0, 2));
        Check.same("START", 0, () -> x.ofState(26, 6));
        int[][] wrong = {{0, 0, 0, 0}, {4, 0, 0, 0}, {-1, 0, 0, 0}, {1, 2, 0, 0}, {1, 0, -2, 0}, {2, 0, 0, 3},
            {3, 4, 0, 0}, {3, 0, 0, -4}, {Integer.MIN_VALUE, 0, 0, 0}, {Integer.MAX_VALUE, 0, 0, 0},
            {2, Integer.MIN_VALUE, 0, 0}, {2, 0, Integer.MAX_VALUE, 0}};
        for (int[] w : wrong) {
            Check.refused("begin of wrong numbers", ARGUMENT, x, () -> x.begin(w[0], w[1], w[2], w[3]));
        }
    }

    private static void promise2Anew() {
        HoundlightProofs x = new HoundlightProofs();
        x.branch(0);
        x.update(0, 1, 0, 0, 1);
        x.guess(0, 0, 0, 0);
        x.guess(1, 0, 0, 1);
        Check.same("sift", 2, x::sift);
        Check.same("both fall", 0L, x::standing);
        Check.refused("a wrong begin strikes nothing back", ARGUMENT, x, () -> x.begin(2, 0, 0, 3));
        Check.same("begin", 13, () -> x.begin(1, 0, 0, 0));
        Check.same("both stand again", 3L, x::standing);
        Check.same("the BRANCH stays", 1, () -> x.loop(1));
        Check.same("its UPDATE stays", 22, () -> x.step(0, 13));
        Check.same("not SIFTED", 0, () -> x.loop(13));
        Check.same("sift() was called", 1, () -> x.loop(14));
        for (int guess = 0; guess < 2; guess++) {
            int g = guess;
            Check.same("by nothing", -1, () -> x.ofGuess(g, 5));
            Check.same("by no STATE", -1, () -> x.ofGuess(g, 6));
            Check.same("by no BRANCH", -1, () -> x.ofGuess(g, 7));
            Check.same("in no ROUND", 0, () -> x.ofGuess(g, 8));
        }
        Check.same("x <= 0 of 27", 18, () -> x.ofGuess(0, 9));
        Check.same("x >= 1 of 27", 9, () -> x.ofGuess(1, 9));
    }

    private static void promise3() {
        HoundlightProofs x = new HoundlightProofs();
        for (int wrong : new int[] {-1, 3, Integer.MIN_VALUE, Integer.MAX_VALUE}) {
            Check.refused("branch(" + wrong + ")", INDEX, x, () -> x.branch(wrong));
        }
        x.sift();
        for (int number = 0; number < 8; number++) {
            int variable = number % 3;
            Check.same("branch", number, () -> x.branch(variable));
        }
        Check.same("not SIFTED", 0, () -> x.loop(13));
        for (int state = 0; state < 125; state++) {
            int s = state;
            Check.same("the first changes nothing", state, () -> x.step(0, s));
            Check.same("the last changes nothing", state, () -> x.step(7, s));
        }
        x.sift();
        Check.refused("the ninth", STATE, x, () -> x.branch(0));
        Check.refused("the ninth of no VARIABLE", INDEX, x, () -> x.branch(3));
        Check.same("still SIFTED", 1, () -> x.loop(13));
        Check.same("no END", 0, () -> x.loop(7));
        Check.same("no FALL, where nothing changes", -1, () -> x.loop(12));
    }

    private static void promise4() {
        HoundlightProofs x = new HoundlightProofs();
        Check.refused("guard of none", INDEX, x, () -> x.guard(0, 0, 0, 0, 0));
        x.branch(1);
        Check.same("x <= 0", 75, () -> x.guard(0, 1, 0, 0, 0));
        Check.same("y <= -2", 25, () -> x.guard(0, 0, 1, 0, -2));
        Check.same("-z <= 1", 100, () -> x.guard(0, 0, 0, -1, 1));
        Check.same("the least sum", 1, () -> x.guard(0, 2, 2, 2, -12));
        Check.same("OPEN there", 1, () -> x.ofState(0, 3));
        Check.same("and not next to it", 0, () -> x.ofState(1, 3));
        Check.same("below it", 0, () -> x.guard(0, 2, 2, 2, -13));
        Check.same("the least c", 0, () -> x.guard(0, -2, -2, -2, -20));
        Check.same("the greatest c", 125, () -> x.guard(0, -2, 2, -2, 20));
        Check.same("x - z <= -4", 5, () -> x.guard(0, 1, 0, -1, -4));
        x.sift();
        int[][] wrong = {{-3, 0, 0, 0}, {3, 0, 0, 0}, {0, -3, 0, 0}, {0, 3, 0, 0}, {0, 0, -3, 0}, {0, 0, 3, 0},
            {0, 0, 0, -21}, {0, 0, 0, 21}, {Integer.MIN_VALUE, 0, 0, 0}, {0, 0, 0, Integer.MAX_VALUE}};
        for (int[] w : wrong) {
            Check.refused("guard of wrong numbers", ARGUMENT, x, () -> x.guard(0, w[0], w[1], w[2], w[3]));
            Check.refused("of no BRANCH, too", INDEX, x, () -> x.guard(1, w[0], w[1], w[2], w[3]));
        }
        Check.refused("guard(-1)", INDEX, x, () -> x.guard(-1, 0, 0, 0, 0));
        Check.same("still SIFTED", 1, () -> x.loop(13));
        x.guard(0, 1, 0, -1, -4);
        Check.same("not SIFTED, though it is the same", 0, () -> x.loop(13));
    }

    private static void promise5() {
        HoundlightProofs x = new HoundlightProofs();
        Check.refused("update of none", INDEX, x, () -> x.update(0, 0, 0, 0, 0));
        x.branch(0);
        x.branch(1);
        x.branch(2);
        Check.same("x + 1", 100, () -> x.update(0, 1, 0, 0, 1));
        Check.same("HELD", 112, () -> x.step(0, 112));
        Check.same("x is y", 100, () -> x.update(0, 0, 1, 0, 0));
        Check.same("5 - 2y, HELD, is never y", 125, () -> x.update(1, 0, -2, 0, 5));
        Check.same("z stays", 0, () -> x.update(2, 0, 0, 1, 0));
        Check.same("z - 5", 100, () -> x.update(2, 0, 0, 1, -5));
        Check.same("z - 5 from 2 is HELD to -2", 60, () -> x.step(2, 64));
        x.guard(2, 0, 0, 0, -1);
        Check.same("closed everywhere, it counts", 100, () -> x.update(2, 0, 0, 1, 1));
        Check.same("closed", -1, () -> x.step(2, 62));
        x.sift();
        int[][] wrong = {{-3, 0, 0, 0}, {3, 0, 0, 0}, {0, -3, 0, 0}, {0, 3, 0, 0}, {0, 0, -3, 0}, {0, 0, 3, 0},
            {0, 0, 0, -6}, {0, 0, 0, 6}, {0, Integer.MIN_VALUE, 0, 0}, {0, 0, 0, Integer.MAX_VALUE}};
        for (int[] w : wrong) {
            Check.refused("update of wrong numbers", ARGUMENT, x, () -> x.update(0, w[0], w[1], w[2], w[3]));
            Check.refused("of no BRANCH, too", INDEX, x, () -> x.update(3, w[0], w[1], w[2], w[3]));
        }
        Check.refused("update(-1)", INDEX, x, () -> x.update(-1, 0, 0, 0, 0));
        Check.same("still SIFTED", 1, () -> x.loop(13));
        x.update(0, 0, 1, 0, 0);
        Check.same("not SIFTED, though it is the same", 0, () -> x.loop(13));
    }

    private static void promise13() {
        HoundlightProofs x = new HoundlightProofs();
        x.begin(1, 0, 0, 0);
        x.branch(2);
        x.update(0, 1, -1, 0, 0);
        x.guard(0, 1, 0, 0, 0);
        Check.same("z is x - y: 0 0 0", 13, () -> x.step(0, 13));
        Check.same("-1 -1 1", 1, () -> x.step(0, 2));
        Check.same("0 -1 -1", 11, () -> x.step(0, 9));
        Check.same("-1 1 1 is HELD", 6, () -> x.step(0, 8));
        Check.same("closed where x is 1", -1, () -> x.step(0, 18));
        Check.same("the last STATE", -1, () -> x.step(0, 26));
        for (int wrong : new int[] {-1, 27, Integer.MIN_VALUE, Integer.MAX_VALUE}) {
            Check.refused("step from no STATE", INDEX, x, () -> x.step(0, wrong));
        }
        for (int wrong : new int[] {-1, 1, Integer.MIN_VALUE, Integer.MAX_VALUE}) {
            Check.refused("step of no BRANCH", INDEX, x, () -> x.step(wrong, 0));
        }
    }

    private static void promise14() {
        HoundlightProofs x = new HoundlightProofs();
        x.begin(1, -1, 0, 1);
        x.branch(0);
        x.guard(0, 1, 0, 0, 0);
        x.update(0, 1, 0, 0, 1);
        x.branch(1);
        x.guard(1, 1, 0, 0, -1);
        x.update(1, 0, 1, 0, 1);
        x.guess(0, 0, 0, 0);
        x.guess(1, 2, 2, 0);
        int[][] due = {
            {5, -1, 0, 1, 2, 0, 1, 0},
            {8, -1, 1, 1, 2, 0, 1, 1},
            {14, 0, 0, 1, 1, 0, 1, 1},
            {17, 0, 1, 1, 1, 0, 1, 2},
            {23, 1, 0, 1, 0, 1, 0, 2},
            {26, 1, 1, 1, 0, 1, 0, 3},
            {0, -1, -1, -1, 2, 0, 0, -1},
            {12, 0, 0, -1, 1, 0, 0, -1}};
        for (int[] row : due) {
            for (int what = 0; what < 7; what++) {
                int w = what;
                Check.same("ofState(" + row[0] + ", " + what + ")", row[what + 1], () -> x.ofState(row[0], w));
            }
        }
        x.run(0, 1);
        for (int wrong : new int[] {-1, 7, Integer.MIN_VALUE, Integer.MAX_VALUE}) {
            Check.refused("ofState of no what", ARGUMENT, x, () -> x.ofState(0, wrong));
            Check.refused("ofState of no STATE, too", INDEX, x, () -> x.ofState(27, wrong));
        }
        Check.refused("ofState(-1)", INDEX, x, () -> x.ofState(-1, 0));
        Check.refused("ofState(least)", INDEX, x, () -> x.ofState(Integer.MIN_VALUE, 0));
    }
}
