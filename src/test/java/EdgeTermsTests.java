/** One method for each sentence of the document's head and Terms that names an edge; it stands above the method. */
public final class EdgeTermsTests {
    private EdgeTermsTests() {
    }

    public static void main(String[] args) {
        lastsFor512Calls();
        noneIsMinusOne();
        setsAreSumsOfPowers();
        theirOrder();
        heldAtBothEnds();
        restsAreNeverNegative();
        drawnIsARow();
        firstDrawn();
        boundIsTwoAtFirst();
        codesAreDigits();
        startIsZeroAtFirst();
        openUpToC();
        updateIsHeldAndOthersStay();
        endIfNoneIsOpen();
        Check.end("EdgeTermsTests");
    }

    /** «An object is used for at most 512 calls after it has been made» */
    private static void lastsFor512Calls() {
        HoundlightProofs x = new HoundlightProofs();
        for (int call = 1; call < 512; call++) {
            Check.same("call", call, x::call);
        }
        Check.same("the 512th call", 511, () -> x.loop(15));
        HoundlightProofs y = new HoundlightProofs();
        Scenes.adding(y, 0, 1);
        y.guess(0, 0, 0, 0);
        Check.same("three calls more", 2, y::sift);
        for (int call = 5; call < 512; call++) {
            Check.same("sift", 1, y::sift);
        }
        Check.same("of 512 calls", 508, () -> y.loop(14));
    }

    /** «NONE is -1» */
    private static void noneIsMinusOne() {
        HoundlightProofs x = Scenes.follower();
        Check.same("a STEP of a closed BRANCH", -1, () -> x.step(0, Scenes.code(1, 1, 0, 0)));
        Check.same("SOON of what is not FOUND", -1, () -> x.ofState(Scenes.code(1, 0, 0, 1), 6));
        x.guess(0, 0, 0, 1);
        Check.same("struck by nothing", -1, () -> x.ofGuess(0, 5));
        Check.same("by no STATE", -1, () -> x.ofGuess(0, 6));
        Check.same("by no BRANCH", -1, () -> x.ofGuess(0, 7));
        Check.same("no WITNESS against SAFE", -1, () -> x.goal(0, 2));
        Check.same("no WITNESS against DONE", -1, () -> x.goal(0, 3));
        Check.same("no FALL, as y stays", -1, () -> x.loop(12));
    }

    /** «A set is the sum of 2^k for the number k of each.» */
    private static void setsAreSumsOfPowers() {
        HoundlightProofs x = new HoundlightProofs();
        for (int guess = 0; guess < 39; guess++) {
            x.guess(guess == 31 || guess == 32 ? 0 : 1, 0, 0, guess == 31 || guess == 32 ? 0 : 1);
        }
        x.guess(0, 1, 0, 0);
        Check.same("37 fall", 37, () -> x.run(0, 1));
        Check.same("31, 32 and 39", 2147483648L + 4294967296L + 549755813888L, x::standing);
        x.sift();
        Check.same("39", 549755813888L, () -> x.needed(39));
        Check.same("31", 2147483648L, () -> x.needed(32));
    }

    /** «In their order»: the smallest number first. */
    private static void theirOrder() {
        HoundlightProofs x = new HoundlightProofs();
        Scenes.adding(x, 0, 1);
        Scenes.adding(x, 1, 1);
        x.guard(1, 0, 0, 0, 0);
        x.guard(0, 0, 0, 0, 0);
        Check.same("seed 1 draws 60: place 0 is the BRANCH 0", Scenes.code(2, 1, 0, 0), () -> x.wouldEnd(1, 1));
        Check.same("seed 0 draws 17: place 1 is the BRANCH 1", Scenes.code(2, 0, 1, 0), () -> x.wouldEnd(0, 1));
    }

    /** «To HOLD a number to a and b: a, if it is less, b, if it is more.» */
    private static void heldAtBothEnds() {
        int[][] held = {{-1, -1, -1, -1, -1, 0, 1, 1, 1, 1, 1}, {-2, -2, -2, -2, -1, 0, 1, 2, 2, 2, 2},
            {-3, -3, -3, -2, -1, 0, 1, 2, 3, 3, 3}};
        for (int bound = 1; bound <= 3; bound++) {
            int b = bound;
            HoundlightProofs x = new HoundlightProofs();
            int start = x.begin(bound, 0, 0, 0);
            x.branch(0);
            for (int e = -5; e <= 5; e++) {
                x.update(0, 0, 0, 0, e);
                int due = Scenes.code(bound, held[bound - 1][e + 5], 0, 0);
                Check.same(e + " HELD to " + b, due, () -> x.step(0, start));
            }
        }
        HoundlightProofs y = new HoundlightProofs();
        int greatest = y.begin(3, 3, 3, 3);
        y.branch(1);
        y.update(0, 2, 2, 2, 5);
        Check.same("23 HELD", greatest, () -> y.step(0, greatest));
        Check.same("-13 HELD", 0, () -> y.step(0, 0));
        y.update(0, -2, -2, -2, -5);
        Check.same("-23 HELD", Scenes.code(3, 3, -3, 3), () -> y.step(0, greatest));
        Check.same("13 HELD", Scenes.code(3, -3, 3, -3), () -> y.step(0, 0));
    }

    /** «The REST of a number by m is 0 to m - 1 (of -1 by 3 it is 2).» */
    private static void restsAreNeverNegative() {
        HoundlightProofs x = new HoundlightProofs();
        x.begin(3, 0, 0, 0);
        int[] byTwo = {1, 0, 1, 0, 1, 0, 1, 0, 1, 0, 1, 0, 1, 0, 1, 0, 1, 0, 1};
        int[] byThree = {0, 1, 2, 0, 1, 2, 0, 1, 2, 0, 1, 2, 0, 1, 2, 0, 1, 2, 0};
        for (int c = -9; c <= 9; c++) {
            int two = x.guess(4, 0, 0, c);
            int rest = byTwo[c + 9];
            for (int i = -3; i <= 3; i++) {
                int state = Scenes.code(3, i, 0, 0);
                boolean so = byTwo[i + 9] == rest;
                Check.same(i + " and " + c + " by 2", so, () -> x.holds(two, state));
            }
            Check.same("words", "x = " + rest + " by 2", () -> x.words(two));
        }
        HoundlightProofs y = new HoundlightProofs();
        y.begin(3, 0, 0, 0);
        for (int c = -9; c <= 9; c++) {
            int three = y.guess(5, 0, 1, c);
            int rest = byThree[c + 9];
            for (int sum = -6; sum <= 6; sum++) {
                int state = Scenes.code(3, sum / 2, sum - sum / 2, 0);
                boolean so = byThree[sum + 9] == rest;
                Check.same(sum + " and " + c + " by 3", so, () -> y.holds(three, state));
            }
            Check.same("words", "x + y = " + rest + " by 3", () -> y.words(three));
        }
    }

    /** Eight BRANCHES that are always OPEN; the last one to be gone by can be seen in the STATE. */
    private static HoundlightProofs eightWays() {
        HoundlightProofs x = new HoundlightProofs();
        x.begin(3, 0, 0, 0);
        for (int place = 0; place < 7; place++) {
            Scenes.setting(x, 0, place - 3);
        }
        Scenes.setting(x, 1, 1);
        return x;
    }

    /** «the first one is the seed, each next one is (43 * the one ahead + 17) modulo 199» */
    private static void drawnIsARow() {
        for (int turns = 1; turns <= 3; turns++) {
            HoundlightProofs x = eightWays();
            int t = turns;
            for (int seed = 0; seed < 199; seed++) {
                int s = seed;
                int drawn = seed;
                int first = 0;
                int second = 0;
                for (int turn = 0; turn < turns; turn++) {
                    drawn = (43 * drawn + 17) % 199;
                    first = drawn % 8 < 7 ? drawn % 8 - 3 : first;
                    second = drawn % 8 < 7 ? second : 1;
                }
                int due = Scenes.code(3, first, second, 0);
                Check.same("wouldEnd(" + s + ", " + t + ")", due, () -> x.wouldEnd(s, t));
            }
        }
    }

    /** «of a run that is told: its first DRAWN is (43 * seed + 17) modulo 199» */
    private static void firstDrawn() {
        HoundlightProofs x = eightWays();
        Check.same("seed 0 draws 17: place 1", Scenes.code(3, -2, 0, 0), () -> x.wouldEnd(0, 1));
        Check.same("seed 198 draws 173: place 5", Scenes.code(3, 2, 0, 0), () -> x.wouldEnd(198, 1));
        Check.same("seed 5 draws 33: place 1", Scenes.code(3, -2, 0, 0), () -> x.wouldEnd(5, 1));
        Check.same("seed 137 draws 137: place 1", Scenes.code(3, -2, 0, 0), () -> x.wouldEnd(137, 1));
        Check.same("and so for 60 turns", Scenes.code(3, -2, 0, 0), () -> x.wouldEnd(137, 60));
        Check.same("seed 3 draws 146: place 2", Scenes.code(3, -1, 0, 0), () -> x.wouldEnd(3, 1));
    }

    /** «BOUND is 1 to 3 (2 at first).» */
    private static void boundIsTwoAtFirst() {
        HoundlightProofs x = new HoundlightProofs();
        Check.same("5 * 5 * 5 STATES", 125, () -> x.loop(0));
        Check.same("the greatest number", 2, () -> x.ofState(124, 0));
        Check.same("the least number", -2, () -> x.ofState(0, 2));
        Scenes.setting(x, 0, 3);
        Check.same("3 is HELD to 2", 112, () -> x.step(0, 62));
    }

    /** «each number and BOUND, as a digit of a number to the base 2 * BOUND + 1, the VARIABLE 0 as the first digit» */
    private static void codesAreDigits() {
        for (int bound = 1; bound <= 3; bound++) {
            for (int variable = 0; variable < 3; variable++) {
                HoundlightProofs x = new HoundlightProofs();
                x.begin(bound, 0, 0, 0);
                int v = variable;
                int state = 0;
                for (int first = -bound; first <= bound; first++) {
                    for (int second = -bound; second <= bound; second++) {
                        for (int third = -bound; third <= bound; third++) {
                            int code = state++;
                            int due = new int[] {first, second, third}[variable];
                            Check.same("ofState(" + code + ", " + v + ")", due, () -> x.ofState(code, v));
                        }
                    }
                }
                Check.same("as many STATES", state, () -> x.loop(0));
            }
        }
    }

    /** «START is a STATE (all 0 at first).» */
    private static void startIsZeroAtFirst() {
        HoundlightProofs x = new HoundlightProofs();
        for (int state = 0; state < 125; state++) {
            int s = state;
            Check.same("SOON of " + s, s == 62 ? 0 : -1, () -> x.ofState(s, 6));
        }
        Check.same("a RUN is over there", 62, () -> x.wouldEnd(0, 60));
    }

    /** «it is OPEN in a STATE, if the sum of COEFFICIENT * number of the three VARIABLES is no more than c» */
    private static void openUpToC() {
        HoundlightProofs x = new HoundlightProofs();
        x.begin(3, 0, 0, 0);
        x.branch(0);
        int[][] due = {{20, 343}, {19, 343}, {18, 343}, {17, 342}, {-17, 1}, {-18, 1}, {-19, 0}, {-20, 0}};
        for (int[] row : due) {
            Check.same("2 2 2 up to " + row[0], row[1], () -> x.guard(0, 2, 2, 2, row[0]));
            Check.same("-2 -2 -2 up to " + row[0], row[1], () -> x.guard(0, -2, -2, -2, row[0]));
        }
        x.guard(0, 1, -2, 2, -3);
        Check.same("1 + 0 - 4 is -3", 0, () -> x.step(0, Scenes.code(3, 1, 0, -2)) - Scenes.code(3, 1, 0, -2));
        Check.same("2 + 0 - 4 is -2", -1, () -> x.step(0, Scenes.code(3, 2, 0, -2)));
        Check.same("1 + 2 - 4 is -1", -1, () -> x.step(0, Scenes.code(3, 1, -1, -2)));
        Check.same("-3 + 0 + 0 is -3", 1, () -> x.ofState(Scenes.code(3, -3, 0, 0), 3));
        Check.same("-2 + 0 + 0 is -2", 0, () -> x.ofState(Scenes.code(3, -2, 0, 0), 3));
    }

    /** «the new number of that VARIABLE is the sum .., and e, HELD to -BOUND and BOUND; all others stay» */
    private static void updateIsHeldAndOthersStay() {
        HoundlightProofs x = new HoundlightProofs();
        x.begin(3, 0, 0, 0);
        for (int variable = 0; variable < 3; variable++) {
            x.branch(variable);
            x.update(variable, 1, -2, 2, 3);
        }
        int from = Scenes.code(3, -1, 2, 1);
        Check.same("-1 - 4 + 2 + 3 is 0, of x", Scenes.code(3, 0, 2, 1), () -> x.step(0, from));
        Check.same("of y", Scenes.code(3, -1, 0, 1), () -> x.step(1, from));
        Check.same("of z", Scenes.code(3, -1, 2, 0), () -> x.step(2, from));
        int least = Scenes.code(3, -2, 3, 1);
        Check.same("-2 - 6 + 2 + 3 is -3", Scenes.code(3, -3, 3, 1), () -> x.step(0, least));
        Check.same("-3 - 6 + 2 + 3 is HELD", Scenes.code(3, -3, -3, 1), () -> x.step(1, Scenes.code(3, -3, 3, 1)));
        int greatest = Scenes.code(3, 0, -1, -1);
        Check.same("0 + 2 - 2 + 3 is 3", Scenes.code(3, 0, -1, 3), () -> x.step(2, greatest));
        Check.same("1 + 2 - 2 + 3 is HELD to 3", Scenes.code(3, 3, -1, -1), () -> x.step(0, Scenes.code(3, 1, -1, -1)));
    }

    /** «A STEP from a STATE goes by any BRANCH that is OPEN there. A STATE is an END, if none is OPEN.» */
    private static void endIfNoneIsOpen() {
        HoundlightProofs x = new HoundlightProofs();
        Check.same("without BRANCHES", 1, () -> x.ofState(62, 4));
        x.branch(0);
        Check.same("one that changes nothing is OPEN", 0, () -> x.ofState(62, 4));
        x.branch(1);
        x.guard(0, 1, 0, 0, -1);
        x.guard(1, 1, 0, 0, 0);
        Check.same("both where x is -1", 2, () -> x.ofState(Scenes.code(2, -1, 0, 0), 3));
        Check.same("one where x is 0", 1, () -> x.ofState(62, 3));
        Check.same("that is no END", 0, () -> x.ofState(62, 4));
        Check.same("none where x is 1", 0, () -> x.ofState(Scenes.code(2, 1, 0, 0), 3));
        Check.same("that is an END", 1, () -> x.ofState(Scenes.code(2, 1, 0, 0), 4));
        Check.same("x is 1 or 2", 50, () -> x.loop(7));
    }
}
