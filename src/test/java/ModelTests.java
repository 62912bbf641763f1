import java.util.Random;

/** Long runs of calls, right and wrong ones, against the model that follows the document word by word. */
public final class ModelTests {
    private static final int RUNS = 60;
    private static final int CALLS = 120;

    private final Random random;
    private final HoundlightProofs proofs = new HoundlightProofs();
    private final Model model = new Model();
    private final StringBuilder told = new StringBuilder();

    private ModelTests(int seed) {
        random = new Random(seed);
    }

    public static void main(String[] args) {
        int runs = args.length > 0 ? Integer.parseInt(args[0]) : RUNS;
        for (int seed = 0; seed < runs; seed++) {
            new ModelTests(seed).runAll(seed);
        }
        new ModelTests(runs).runFull();
        Check.end("ModelTests");
    }

    private void runAll(int seed) {
        if (seed % 4 != 0) {
            same("begin", () -> proofs.begin(1, 0, 0, 0), () -> model.begin(1, 0, 0, 0));
        }
        for (int number = seed % 5; number > 0; number--) {
            tellLoop(0);
        }
        int telling = seed % 3 == 0 ? 2 : 8;
        for (int call = 0; call < CALLS; call++) {
            int what = random.nextInt(40);
            if (what < telling) {
                tellLoop(what % 4);
            } else if (what < 16) {
                tellGuess(what % 7);
            } else {
                ask(what - 16);
            }
        }
        same("digest", proofs::digest, model::digest);
    }

    /** All BRANCHES, all GUESSES and all STATES that there can be. */
    private void runFull() {
        same("begin(3, 0, 0, 0)", () -> proofs.begin(3, 0, 0, 0), () -> model.begin(3, 0, 0, 0));
        for (int branch = 0; branch < 8; branch++) {
            int b = branch;
            int down = branch < 4 ? -1 : 1;
            same("branch(" + b + " % 3)", () -> proofs.branch(b % 3), () -> model.branch(b % 3));
            same("guard(" + b + ", ..)", () -> proofs.guard(b, 1, down, -1, b - 3),
                () -> model.guard(b, 1, down, -1, b - 3));
            same("update(" + b + ", ..)", () -> proofs.update(b, down, 1, 1, b - 5),
                () -> model.update(b, down, 1, 1, b - 5));
        }
        for (int guess = 0; guess < 40; guess++) {
            int g = guess;
            same("guess(" + g + " % 6, ..)", () -> proofs.guess(g % 6, g % 3, g % 2, g % 7),
                () -> model.guess(g % 6, g % 3, g % 2, g % 7));
        }
        same("begin(3, -3, 0, 1)", () -> proofs.begin(3, -3, 0, 1), () -> model.begin(3, -3, 0, 1));
        same("digest()", proofs::digest, model::digest);
        same("run(0, 60)", () -> proofs.run(0, 60), () -> model.run(0, 60));
        same("learn(0, 60)", () -> proofs.learn(0, 60), () -> model.learn(0, 60));
        same("sift()", proofs::sift, model::sift);
        for (int guess = 0; guess < 40; guess++) {
            int g = guess;
            same("needed(" + g + ")", () -> proofs.needed(g), () -> model.needed(g));
            same("wouldKeep(" + g + ")", () -> proofs.wouldKeep(g), () -> model.wouldKeep(g));
        }
        same("digest()", proofs::digest, model::digest);
        same("begin(1, 0, 0, 1)", () -> proofs.begin(1, 0, 0, 1), () -> model.begin(1, 0, 0, 1));
        same("digest()", proofs::digest, model::digest);
    }

    /** Mostly a number of least to most, now and then one beside them or far off. */
    private int number(int least, int most) {
        switch (random.nextInt(60)) {
            case 0:
                return least - 1;
            case 1:
                return most + 1;
            case 2:
                return random.nextBoolean() ? Integer.MIN_VALUE : Integer.MAX_VALUE;
            default:
                return least + random.nextInt(Math.max(1, most - least + 1));
        }
    }

    private int small(int most) {
        return random.nextInt(3) == 0 ? number(-most, most) : number(-1, 1);
    }

    private void tellLoop(int what) {
        int branch = number(0, model.loop(1) - 1);
        int first = small(2);
        int second = small(2);
        int third = small(2);
        switch (what) {
            case 0: {
                int variable = number(0, 2);
                same("branch(" + variable + ")", () -> proofs.branch(variable), () -> model.branch(variable));
                break;
            }
            case 1: {
                int c = random.nextInt(4) == 0 ? number(-20, 20) : number(-2, 3);
                same("guard(" + branch + ", " + first + ", " + second + ", " + third + ", " + c + ")",
                    () -> proofs.guard(branch, first, second, third, c),
                    () -> model.guard(branch, first, second, third, c));
                break;
            }
            case 2: {
                int e = random.nextInt(2) == 0 ? number(-5, 5) : number(-1, 1);
                same("update(" + branch + ", " + first + ", " + second + ", " + third + ", " + e + ")",
                    () -> proofs.update(branch, first, second, third, e),
                    () -> model.update(branch, first, second, third, e));
                break;
            }
            default: {
                int bound = number(1, random.nextInt(4) == 0 ? 3 : 2);
                int at = random.nextInt(8) == 0 ? 3 : 1;
                int i = number(-at, at);
                int j = number(-at, at);
                int k = number(-at, at);
                same("begin(" + bound + ", " + i + ", " + j + ", " + k + ")", () -> proofs.begin(bound, i, j, k),
                    () -> model.begin(bound, i, j, k));
                break;
            }
        }
    }

    private void tellGuess(int what) {
        int seed = number(0, 198);
        int turns = random.nextBoolean() ? number(1, 60) : number(1, 4);
        String run = "(" + seed + ", " + turns + ")";
        switch (what) {
            case 0:
                same("learn" + run, () -> proofs.learn(seed, turns), () -> model.learn(seed, turns));
                break;
            case 1:
                same("run" + run, () -> proofs.run(seed, turns), () -> model.run(seed, turns));
                break;
            case 2:
            case 3:
                same("sift()", proofs::sift, model::sift);
                break;
            default: {
                int kind = number(0, 6);
                int most = kind == 6 ? model.loop(2) - 1 : 2;
                int i = number(0, most);
                int j = number(0, most);
                int c = random.nextInt(3) == 0 ? number(-9, 9) : number(-1, 2);
                same("guess(" + kind + ", " + i + ", " + j + ", " + c + ")", () -> proofs.guess(kind, i, j, c),
                    () -> model.guess(kind, i, j, c));
                break;
            }
        }
    }

    private void ask(int which) {
        int guess = number(0, model.loop(2) - 1);
        int state = number(0, model.loop(0) - 1);
        int branch = number(0, model.loop(1) - 1);
        int what = number(0, 9);
        String pair = "(" + guess + ", " + what + ")";
        switch (which) {
            case 0:
            case 1:
                same("ofGuess" + pair, () -> proofs.ofGuess(guess, what), () -> model.ofGuess(guess, what));
                break;
            case 2:
                same("holds(" + guess + ", " + state + ")", () -> proofs.holds(guess, state),
                    () -> model.holds(guess, state));
                break;
            case 3:
                same("step(" + branch + ", " + state + ")", () -> proofs.step(branch, state),
                    () -> model.step(branch, state));
                break;
            case 4:
            case 5:
                same("ofState(" + state + ", " + what + ")", () -> proofs.ofState(state, what),
                    () -> model.ofState(state, what));
                break;
            case 6:
            case 7:
                same("goal" + pair, () -> proofs.goal(guess, what), () -> model.goal(guess, what));
                break;
            case 8:
            case 9:
            case 10:
                same("needed(" + guess + ")", () -> proofs.needed(guess), () -> model.needed(guess));
                break;
            case 11:
            case 12:
            case 13:
                same("wouldKeep(" + guess + ")", () -> proofs.wouldKeep(guess), () -> model.wouldKeep(guess));
                break;
            case 14:
                same("words(" + guess + ")", () -> proofs.words(guess), () -> model.words(guess));
                break;
            case 15:
                same("lies(" + guess + ")", () -> proofs.lies(guess), () -> model.lies(guess));
                break;
            default:
                askAll(which);
                break;
        }
    }

    private void askAll(int which) {
        int seed = number(0, 198);
        int turns = number(1, 60);
        int what = number(0, 15);
        switch (which) {
            case 16:
            case 17:
                same("loop(" + what + ")", () -> proofs.loop(what), () -> model.loop(what));
                break;
            case 18:
                same("standing()", proofs::standing, model::standing);
                break;
            case 19:
                same("part()", proofs::part, model::part);
                break;
            case 20:
                same("wouldEnd(" + seed + ", " + turns + ")", () -> proofs.wouldEnd(seed, turns),
                    () -> model.wouldEnd(seed, turns));
                break;
            case 21:
                same("isSound()", proofs::isSound, model::isSound);
                break;
            case 22:
                same("call()", proofs::call, model::call);
                break;
            default:
                if (random.nextInt(6) == 0) {
                    same("digest()", proofs::digest, model::digest);
                }
                break;
        }
    }

    private void same(String call, Check.Call got, Check.Call due) {
        Object answer;
        try {
            answer = due.answer();
        } catch (RuntimeException thrown) {
            answer = "throws " + thrown.getClass().getName();
        }
        told.append(' ').append(call);
        Check.same(call, told, answer, got);
    }
}
