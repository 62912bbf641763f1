/** What README.md says that its calls answer, call by call. */
public final class ReadmeTests {
    private ReadmeTests() {
    }

    public static void main(String[] args) {
        toldGuesses();
        learnedGuesses();
        Check.end("ReadmeTests");
    }

    private static void toldGuesses() {
        HoundlightProofs proofs = new HoundlightProofs();
        Check.same("branch(0)", 0, () -> proofs.branch(0));
        Check.same("guard(0, 1, 0, 0, 0)", 75, () -> proofs.guard(0, 1, 0, 0, 0));
        Check.same("update(0, 1, 0, 0, 1)", 100, () -> proofs.update(0, 1, 0, 0, 1));
        Check.same("guess(0, 0, 0, 1)", 0, () -> proofs.guess(0, 0, 0, 1));
        Check.same("guess(0, 0, 0, 0)", 1, () -> proofs.guess(0, 0, 0, 0));
        Check.same("sift()", 2, proofs::sift);
        Check.same("standing()", 1L, proofs::standing);
        Check.same("words(1)", "x <= 0 (struck)", () -> proofs.words(1));
        Check.same("needed(0)", 1L, () -> proofs.needed(0));
    }

    private static void learnedGuesses() {
        HoundlightProofs proofs = new HoundlightProofs();
        Check.same("begin(3, 3, 0, 0)", 318, () -> proofs.begin(3, 3, 0, 0));
        proofs.branch(0);
        proofs.guard(0, -1, 0, 0, -1);
        proofs.update(0, 1, 0, 0, -1);
        Check.same("learn(7, 60)", 9, () -> proofs.learn(7, 60));
        Check.same("words(0)", "x <= 3", () -> proofs.words(0));
        Check.same("words(1)", "x >= 0", () -> proofs.words(1));
        Check.same("words(2)", "y <= 0", () -> proofs.words(2));
        Check.same("guess(0, 0, 0, 0)", 9, () -> proofs.guess(0, 0, 0, 0));
        Check.same("run(7, 60)", 1, () -> proofs.run(7, 60));
        Check.same("sift()", 1, proofs::sift);
        Check.same("goal(9, 0)", 0, () -> proofs.goal(9, 0));
        Check.same("goal(9, 2)", 220, () -> proofs.goal(9, 2));
        Check.same("goal(9, 1)", 1, () -> proofs.goal(9, 1));
        Check.same("loop(12)", 75, () -> proofs.loop(12));
        Check.same("ofState(171, 6)", 3, () -> proofs.ofState(171, 6));
    }
}
