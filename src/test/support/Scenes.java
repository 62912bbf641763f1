/** What several tests set up: loops and guesses by one call, and the code of a state. */
final class Scenes {
    private Scenes() {
    }

    /** The code of a STATE, by the sum of its digits. */
    static int code(int bound, int first, int second, int third) {
        int base = 2 * bound + 1;
        return (first + bound) * base * base + (second + bound) * base + third + bound;
    }

    /** A BRANCH that adds e to its VARIABLE, OPEN in every STATE. */
    static void adding(HoundlightProofs x, int variable, int e) {
        int branch = x.branch(variable);
        x.update(branch, variable == 0 ? 1 : 0, variable == 1 ? 1 : 0, variable == 2 ? 1 : 0, e);
    }

    /** A BRANCH that sets its VARIABLE to e, OPEN in every STATE. */
    static void setting(HoundlightProofs x, int variable, int e) {
        int branch = x.branch(variable);
        x.update(branch, 0, 0, 0, e);
    }

    /** BOUND 1, START 0 0 0: x goes up to 1 (BRANCH 0), and y follows x (BRANCH 1), as long as x is no more than 0. */
    static HoundlightProofs follower() {
        HoundlightProofs x = new HoundlightProofs();
        x.begin(1, 0, 0, 0);
        adding(x, 0, 1);
        x.guard(0, 1, 0, 0, 0);
        x.branch(1);
        x.update(1, 1, 0, 0, 0);
        x.guard(1, 1, 0, 0, 0);
        return x;
    }

    /** The follower with a GUESS struck by a RUN, by START and by a STEP each, two that stand, SIFTED. */
    static HoundlightProofs busy() {
        HoundlightProofs x = follower();
        x.guess(1, 1, 0, 1);
        x.run(0, 1);
        x.guess(0, 2, 0, 0);
        x.guess(1, 2, 0, 1);
        x.guess(0, 0, 0, 0);
        x.guess(6, 3, 1, 0);
        x.call();
        x.sift();
        return x;
    }

    /** As many BRANCHES and GUESSES as there can be, SIFTED; the last BRANCH and GUESS are unlike the others. */
    static HoundlightProofs full() {
        HoundlightProofs x = new HoundlightProofs();
        x.begin(1, 0, 0, 0);
        for (int branch = 0; branch < 7; branch++) {
            x.branch(branch % 3);
        }
        adding(x, 2, -1);
        for (int guess = 0; guess < 39; guess++) {
            x.guess(0, guess % 2, 0, 0);
        }
        x.guess(0, 2, 0, 0);
        x.sift();
        return x;
    }

    /** Every question about an object of BOUND 1, in some 400 calls: two that answer this alike are alike. */
    static String tour(HoundlightProofs x) {
        StringBuilder answers = new StringBuilder();
        answers.append(x.digest()).append(' ').append(x.standing()).append(' ').append(x.part());
        for (int guess = 0; guess < x.loop(2) && guess < 6; guess++) {
            answers.append(' ').append(x.words(guess)).append(' ').append(x.wouldKeep(guess)).append(needed(x, guess));
            for (int state = 0; state < 27; state += 2) {
                answers.append(x.holds(guess, state) ? '+' : '-');
            }
        }
        for (int state = 0; state < 27; state++) {
            for (int branch = 0; branch < x.loop(1); branch += 7) {
                answers.append(' ').append(x.step(branch, state));
            }
            for (int what = 3; what < 7; what++) {
                answers.append(' ').append(x.ofState(state, what));
            }
        }
        return answers.append(' ').append(x.wouldEnd(3, 3)).append(' ').append(x.digest()).toString();
    }

    private static String needed(HoundlightProofs x, int guess) {
        try {
            return " " + x.needed(guess);
        } catch (IllegalStateException thrown) {
            return " none";
        }
    }
}
