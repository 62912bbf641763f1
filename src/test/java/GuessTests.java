/** Promises 6 to 12 and 18 to 20: guesses, runs and sifting, and how they are told. */
public final class GuessTests {
    private static final Class<IndexOutOfBoundsException> INDEX = IndexOutOfBoundsException.class;
    private static final Class<IllegalArgumentException> ARGUMENT = IllegalArgumentException.class;
    private static final Class<IllegalStateException> STATE = IllegalStateException.class;
    private static final int[] NO_GUESS = {-1, 7, Integer.MIN_VALUE, Integer.MAX_VALUE};
    private static final int[][] NO_RUN = {{-1, 1}, {199, 1}, {0, 0}, {0, 61}, {Integer.MIN_VALUE, 1},
        {Integer.MAX_VALUE, 1}, {0, Integer.MIN_VALUE}, {0, Integer.MAX_VALUE}};

    private GuessTests() {
    }

    public static void main(String[] args) {
        promise6();
        promise6Full();
        promise7();
        promise7Room();
        promise8();
        promise8Draws();
        promise8Ends();
        promise8Longest();
        promise9();
        promise9First();
        promise10();
        promises11And12();
        promise12Everywhere();
        promises18To20();
        Check.end("GuessTests");
    }

    private static void promise6() {
        HoundlightProofs x = new HoundlightProofs();
        int[][] wrong = {{-1, 0, 0, 0}, {7, 0, 0, 0}, {0, -1, 0, 0}, {0, 3, 0, 0}, {0, 0, -1, 0}, {0, 0, 3, 0},
            {0, 0, 0, -10}, {0, 0, 0, 10}, {5, 3, 0, 0}, {4, 0, 3, 0}, {6, 0, 0, 0}, {6, -1, 0, 0},
            {Integer.MIN_VALUE, 0, 0, 0}, {0, Integer.MAX_VALUE, 0, 0}, {6, 0, Integer.MIN_VALUE, 0}};
        for (int[] w : wrong) {
            Check.refused("guess of wrong numbers", ARGUMENT, x, () -> x.guess(w[0], w[1], w[2], w[3]));
        }
        x.sift();
        for (int kind = 0; kind < 6; kind++) {
            int k = kind;
            Check.same("guess", kind, () -> x.guess(k, 2, 1, k % 2 == 0 ? -9 : 9));
        }
        Check.same("not SIFTED", 0, () -> x.loop(13));
        Check.same("of KIND 6", 6, () -> x.guess(6, 0, 5, 9));
        x.sift();
        Check.refused("of one of KIND 6", ARGUMENT, x, () -> x.guess(6, 6, 0, 0));
        Check.refused("to one of KIND 6", ARGUMENT, x, () -> x.guess(6, 0, 6, 0));
        Check.refused("of itself", ARGUMENT, x, () -> x.guess(6, 7, 0, 0));
        Check.refused("to itself", ARGUMENT, x, () -> x.guess(6, 0, 7, 0));
        Check.refused("of KIND 6 with c 10", ARGUMENT, x, () -> x.guess(6, 0, 0, 10));
        Check.refused("of KIND 6 with c -10", ARGUMENT, x, () -> x.guess(6, 0, 0, -10));
        Check.same("still SIFTED", 1, () -> x.loop(13));
        Check.same("i and j the same", 7, () -> x.guess(6, 4, 4, -9));
    }

    private static void promise6Full() {
        HoundlightProofs x = new HoundlightProofs();
        for (int number = 0; number < 40; number++) {
            Check.same("guess", number, () -> x.guess(0, 0, 0, 2));
        }
        Check.refused("the one behind 40", STATE, x, () -> x.guess(0, 0, 0, 2));
        Check.refused("of KIND 6", STATE, x, () -> x.guess(6, 39, 39, 0));
        Check.refused("wrong and behind 40", ARGUMENT, x, () -> x.guess(7, 0, 0, 2));
        Check.refused("wrong i and behind 40", ARGUMENT, x, () -> x.guess(6, 40, 0, 2));
        Check.same("all STANDING", (1L << 40) - 1, x::standing);
        Check.same("sift", 1, x::sift);
        Check.same("one is enough for none", 0L, () -> x.needed(39));
    }

    /** x goes up to 2, and that is an END. */
    private static HoundlightProofs climber() {
        HoundlightProofs x = new HoundlightProofs();
        x.branch(0);
        x.update(0, 1, 0, 0, 1);
        x.guard(0, 1, 0, 0, 1);
        return x;
    }

    private static void promise7() {
        HoundlightProofs x = climber();
        x.begin(2, -1, 1, -2);
        x.guess(0, 0, 0, -2);
        x.sift();
        Check.same("learn", 9, () -> x.learn(0, 2));
        String[] due = {"x <= 1", "x >= -1", "y <= 1", "y >= 1", "z <= -2", "z >= -2",
            "x - y <= 0", "x - z <= 3", "y - z <= 3"};
        int[][] names = {{0, 0}, {0, 0}, {1, 1}, {1, 1}, {2, 2}, {2, 2}, {0, 1}, {0, 2}, {1, 2}};
        for (int made = 0; made < 9; made++) {
            int guess = made + 1;
            int m = made;
            Check.same("learned", due[made], () -> x.words(guess));
            Check.same("i", names[made][0], () -> x.ofGuess(guess, 1));
            Check.same("j", names[made][1], () -> x.ofGuess(guess, 2));
            Check.same("STANDING", 1, () -> x.ofGuess(guess, 4));
        }
        Check.same("what was struck is what it was", 1L, () -> x.standing() ^ 1023L);
        Check.same("by START", 1, () -> x.ofGuess(0, 5));
        Check.same("not SIFTED", 0, () -> x.loop(13));
        x.sift();
        for (int[] w : NO_RUN) {
            Check.refused("learn of wrong numbers", ARGUMENT, x, () -> x.learn(w[0], w[1]));
        }
        Check.same("still SIFTED", 1, () -> x.loop(13));
        Check.same("the edges", 9, () -> x.learn(198, 60));
        Check.same("x went on to 2", "x <= 2", () -> x.words(10));
    }

    private static void promise7Room() {
        HoundlightProofs x = climber();
        for (int number = 0; number < 38; number++) {
            x.guess(0, 0, 0, 2);
        }
        Check.same("as long as there is room", 2, () -> x.learn(1, 1));
        Check.same("x <= 1", "x <= 1", () -> x.words(38));
        Check.same("x >= 0", "x >= 0", () -> x.words(39));
        x.sift();
        Check.same("no room", 0, () -> x.learn(1, 1));
        Check.same("40 GUESSES", 40, () -> x.loop(2));
        Check.same("not SIFTED, though none is made", 0, () -> x.loop(13));
    }

    private static void promise8() {
        HoundlightProofs x = climber();
        x.guess(0, 0, 0, 0);
        x.guess(0, 0, 0, 1);
        x.guess(1, 0, 0, 1);
        x.guess(0, 1, 1, 2);
        x.sift();
        x.begin(2, 0, 0, 0);
        x.sift();
        x.begin(2, 0, 0, 0);
        Check.same("run of one turn", 2, () -> x.run(5, 1));
        Check.same("left", 10L, x::standing);
        int[][] due = {{0, 0, 87, -1, 0}, {1, -1, -1, -1, 0}, {0, 0, 62, -1, 0}, {1, -1, -1, -1, 0}};
        for (int guess = 0; guess < 4; guess++) {
            for (int what = 4; what < 9; what++) {
                int g = guess;
                int w = what;
                Check.same("ofGuess(" + g + ", " + w + ")", due[g][w - 4], () -> x.ofGuess(g, w));
            }
        }
        Check.same("struck ones fall no more", 0, () -> x.run(5, 1));
        Check.same("behind two turns", 1, () -> x.run(5, 2));
        Check.same("in the STATE in which it is over", 112, () -> x.ofGuess(1, 6));
        Check.same("the first stays", 87, () -> x.ofGuess(0, 6));
        x.sift();
        for (int[] w : NO_RUN) {
            Check.refused("run of wrong numbers", ARGUMENT, x, () -> x.run(w[0], w[1]));
        }
        Check.same("still SIFTED", 1, () -> x.loop(13));
        Check.same("the edges", 0, () -> x.run(198, 60));
        Check.same("not SIFTED, though none is struck", 0, () -> x.loop(13));
        Check.same("the edges", 0, () -> x.run(0, 1));
    }

    /** Seed 0 draws 17, 151, 142, 153: of two these are 1 1 0 1, of three 2 1 1 0. */
    private static void promise8Draws() {
        HoundlightProofs x = new HoundlightProofs();
        x.begin(3, 0, 0, 0);
        x.branch(0);
        x.update(0, 1, 0, 0, 1);
        x.branch(1);
        x.update(1, 0, 1, 0, 1);
        Check.same("1", 178, () -> x.wouldEnd(0, 1));
        Check.same("1 1", 185, () -> x.wouldEnd(0, 2));
        Check.same("1 1 0", 234, () -> x.wouldEnd(0, 3));
        Check.same("1 1 0 1", 241, () -> x.wouldEnd(0, 4));
        x.branch(2);
        x.update(2, 0, 0, 1, 1);
        Check.same("2", 172, () -> x.wouldEnd(0, 1));
        Check.same("2 1 1 0", 235, () -> x.wouldEnd(0, 4));
        x.guard(1, 0, 0, 0, -1);
        Check.same("the second that is OPEN is the BRANCH 2", 172, () -> x.wouldEnd(0, 1));
        Check.same("2 2 0 2", 223, () -> x.wouldEnd(0, 4));
        x.guess(0, 2, 2, 1);
        Check.same("z is 2 behind two turns", 1, () -> x.run(0, 2));
        Check.same("there", 173, () -> x.ofGuess(0, 6));
    }

    private static void promise8Ends() {
        HoundlightProofs x = new HoundlightProofs();
        x.guess(1, 1, 1, 1);
        Check.same("START strikes, though it is an END", 1, () -> x.run(0, 60));
        Check.same("by a RUN", 0, () -> x.ofGuess(0, 5));
        Check.same("there", 62, () -> x.ofGuess(0, 6));
        Check.same("one by a RUN", 1, () -> x.loop(4));
    }

    /** x is 1 and -1 by turns, without an END: the longest RUN has 60 STEPS. */
    private static void promise8Longest() {
        HoundlightProofs x = new HoundlightProofs();
        x.begin(1, 1, 0, 0);
        x.branch(0);
        x.update(0, -1, 0, 0, 0);
        Check.same("an even turn", 22, () -> x.wouldEnd(198, 60));
        Check.same("an odd turn", 4, () -> x.wouldEnd(198, 59));
        Check.same("learn", 9, () -> x.learn(0, 60));
        Check.same("nothing falls", 0, () -> x.run(0, 60));
        x.guess(1, 0, 0, 0);
        Check.same("x >= 0 falls", 1, () -> x.run(0, 60));
        Check.same("there", 4, () -> x.ofGuess(9, 6));
    }

    /** First x goes up, then y follows it: x <= 0 falls in the ROUND 1, y <= 0 in the ROUND 2. */
    private static void promise9() {
        HoundlightProofs x = new HoundlightProofs();
        Check.same("nothing to sift", 1, x::sift);
        x.branch(0);
        x.update(0, 1, 0, 0, 1);
        x.branch(1);
        x.update(1, 1, 0, 0, 0);
        x.guess(0, 0, 0, 0);
        x.guess(0, 1, 1, 0);
        x.guess(0, 2, 2, 0);
        x.guess(1, 2, 2, 1);
        Check.same("not SIFTED", 0, () -> x.loop(13));
        Check.same("three ROUNDS", 3, x::sift);
        Check.same("SIFTED", 1, () -> x.loop(13));
        Check.same("twice", 2, () -> x.loop(14));
        Check.same("z <= 0 is left", 4L, x::standing);
        int[][] due = {{2, 50, 0, 1}, {2, 75, 1, 2}, {-1, -1, -1, 0}, {1, 62, -1, 0}};
        for (int guess = 0; guess < 4; guess++) {
            for (int what = 5; what < 9; what++) {
                int g = guess;
                int w = what;
                Check.same("ofGuess(" + g + ", " + w + ")", due[g][w - 5], () -> x.ofGuess(g, w));
            }
        }
        Check.same("once more", 1, x::sift);
        Check.same("thrice", 3, () -> x.loop(14));
        Check.same("none by a RUN", 0, () -> x.loop(4));
        Check.same("one by START", 1, () -> x.loop(5));
        Check.same("two by a STEP", 2, () -> x.loop(6));
    }

    /** Two BRANCHES break the same GUESS in the same STATE: the first one is told, in the first STATE. */
    private static void promise9First() {
        HoundlightProofs x = new HoundlightProofs();
        x.begin(1, -1, -1, -1);
        x.branch(0);
        x.guard(0, 0, 0, -1, -1);
        x.update(0, 1, 0, 0, 1);
        x.branch(0);
        x.update(1, 0, 0, 0, 1);
        x.branch(0);
        x.update(2, 0, 0, 0, 1);
        x.guess(0, 0, 0, -1);
        x.guess(0, 0, 0, 0);
        Check.same("two ROUNDS", 2, x::sift);
        Check.same("the first STATE", 0, () -> x.ofGuess(0, 6));
        Check.same("the first BRANCH that breaks it", 1, () -> x.ofGuess(0, 7));
        Check.same("as the ROUND began, the other one held nowhere else", 0, () -> x.ofGuess(1, 6));
        Check.same("in the same ROUND", 1, () -> x.ofGuess(1, 8));
    }

    private static void promise10() {
        HoundlightProofs x = new HoundlightProofs();
        x.guess(0, 0, 0, 2);
        x.sift();
        Check.same("call", 1, x::call);
        Check.same("call", 2, x::call);
        x.begin(1, 0, 0, 0);
        Check.same("ever", 3, x::call);
        Check.same("loop(15)", 3, () -> x.loop(15));
        x.sift();
        x.call();
        Check.same("still SIFTED", 1, () -> x.loop(13));
    }

    private static HoundlightProofs oneOfEach() {
        HoundlightProofs x = new HoundlightProofs();
        x.guess(0, 0, 2, 1);
        x.guess(1, 1, 0, -1);
        x.guess(2, 0, 1, -1);
        x.guess(3, 1, 2, 2);
        x.guess(4, 2, 1, -1);
        x.guess(5, 0, 2, -1);
        x.guess(6, 0, 1, 7);
        return x;
    }

    private static void promises11And12() {
        HoundlightProofs x = oneOfEach();
        int[][] due = {{0, 0, 2, 1, 1, -1, -1, -1, 0, 100}, {1, 1, 0, -1, 1, -1, -1, -1, 0, 100},
            {2, 0, 1, -1, 1, -1, -1, -1, 0, 50}, {3, 1, 2, 2, 1, -1, -1, -1, 0, 110},
            {4, 2, 1, -1, 1, -1, -1, -1, 0, 50}, {5, 0, 2, -1, 1, -1, -1, -1, 0, 40},
            {6, 0, 1, 7, 1, -1, -1, -1, 0, 105}};
        for (int guess = 0; guess < 7; guess++) {
            int g = guess;
            for (int what = 0; what < 10; what++) {
                int w = what;
                Check.same("ofGuess(" + g + ", " + w + ")", due[g][w], () -> x.ofGuess(g, w));
            }
            for (int wrong : new int[] {-1, 10, Integer.MIN_VALUE, Integer.MAX_VALUE}) {
                Check.refused("ofGuess of no what", ARGUMENT, x, () -> x.ofGuess(g, wrong));
                Check.refused("ofGuess of no GUESS, too", INDEX, x, () -> x.ofGuess(7, wrong));
            }
            for (int wrong : new int[] {-1, 125, Integer.MIN_VALUE, Integer.MAX_VALUE}) {
                Check.refused("holds in no STATE", INDEX, x, () -> x.holds(g, wrong));
            }
        }
        for (int wrong : NO_GUESS) {
            Check.refused("ofGuess of no GUESS", INDEX, x, () -> x.ofGuess(wrong, 0));
            Check.refused("holds of no GUESS", INDEX, x, () -> x.holds(wrong, 0));
        }
        x.run(0, 1);
        Check.same("x + z is 2 by 3 is struck", 0, () -> x.ofGuess(5, 4));
        Check.same("what is struck still HOLDS where it did", true, () -> x.holds(5, 112));
        x.guess(6, 5, 2, 0);
        Check.same("KIND 6 of a struck one", false, () -> x.holds(7, 112));
        x.begin(1, 0, 0, 0);
        Check.same("of 27", 18, () -> x.ofGuess(1, 9) - 9);
        Check.refused("holds behind the last of 27", INDEX, x, () -> x.holds(0, 27));
    }

    /** Each KIND in each STATE, each of a new object: 512 calls are not enough for all. */
    private static void promise12Everywhere() {
        for (int guess = 0; guess < 7; guess++) {
            HoundlightProofs x = oneOfEach();
            int g = guess;
            for (int state = 0; state < 125; state++) {
                int s = state;
                int i = state / 25 - 2;
                int j = state / 5 % 5 - 2;
                int k = state % 5 - 2;
                boolean[] so = {i <= 1, j >= -1, i < j, j + k <= 2, k == -1 || k == 1,
                    i + k == 2 || i + k == -1 || i + k == -4, i > 1 || j >= -1};
                Check.same("holds(" + g + ", " + s + ")", so[g], () -> x.holds(g, s));
            }
        }
    }

    private static void promises18To20() {
        HoundlightProofs x = new HoundlightProofs();
        Check.same("none STANDING", 0L, x::standing);
        Check.same("part of none", 1.0, x::part);
        HoundlightProofs y = oneOfEach();
        y.guess(5, 1, 0, 9);
        y.guess(4, 1, 0, -8);
        y.guess(2, 2, 2, -9);
        Check.same("all STANDING", 1023L, y::standing);
        Check.same("part of all", 1.0, y::part);
        String[] due = {"x <= 1", "y >= -1", "x - y <= -1", "y + z <= 2", "z = 1 by 2", "x + z = 2 by 3",
            "0 -> 1", "y + x = 0 by 3", "y = 0 by 2", "z - z <= -9"};
        for (int guess = 0; guess < due.length; guess++) {
            int g = guess;
            Check.same("words(" + g + ")", due[g], () -> y.words(g));
        }
        y.sift();
        Check.same("START struck four", 1023L - 4 - 16 - 32 - 512, y::standing);
        Check.same("part of these", 0.6, y::part);
        for (int guess = 0; guess < due.length; guess++) {
            int g = guess;
            String struck = g == 2 || g == 4 || g == 5 || g == 9 ? " (struck)" : "";
            Check.same("words(" + g + ")", due[g] + struck, () -> y.words(g));
        }
        y.begin(2, 0, 0, 0);
        Check.same("again", "z - z <= -9", () -> y.words(9));
        for (int wrong : new int[] {-1, 10, Integer.MIN_VALUE, Integer.MAX_VALUE}) {
            Check.refused("words of no GUESS", INDEX, y, () -> y.words(wrong));
        }
        HoundlightProofs z = new HoundlightProofs();
        z.guess(1, 0, 0, 1);
        z.run(0, 1);
        Check.same("part, if none stands", 0.0, z::part);
        z.guess(1, 0, 0, 0);
        z.guess(1, 0, 0, 0);
        Check.same("two thirds", 2.0 / 3.0, z::part);
        for (int number = 3; number < 40; number++) {
            z.guess(0, 0, 0, 2);
        }
        Check.same("the greatest set", (1L << 40) - 2, z::standing);
        Check.same("the last of 40", true, () -> z.holds(39, 124));
    }
}
