/** One method for each sentence of the promises that names an edge and is no refusal; it stands above the method. */
public final class EdgePromiseTests {
    private EdgePromiseTests() {
    }

    public static void main(String[] args) {
        newLoopIsEmpty();
        objectsAreTheirOwn();
        beginKeepsTheRest();
        beginTurnsToTheNewBound();
        beginWithAllThereCanBe();
        beginAnswersStart();
        branchIsOpenEverywhere();
        guardAnswersHowMany();
        updateAnswersHowMany();
        learnOfStartAlone();
        learnTakesTheExtremes();
        learnStrikesNothing();
        learnAsLongAsThereIsRoom();
        runAnswersHowMany();
        siftOfMany();
        ofGuessOfStrikes();
        ofGuessHowMany();
        stepToItself();
        ofStateOfStanding();
        loopOfEnds();
        loopOfFound();
        loopOfStrikes();
        loopOfSifts();
        standingOfNoneAndAll();
        wordsOfEachKind();
        wordsOfNumbers();
        wordsOfStruck();
        partOfNoneAndSome();
        wouldKeepButThatOne();
        wouldKeepOfStart();
        wouldKeepOfStruck();
        liesStruckOrNot();
        wouldEndChangesNothing();
        wouldEndJustThere();
        soundInEachState();
        digestOfANewObject();
        digestOfAll();
        digestOfSteps();
        digestOfEnds();
        digestCutsThePart();
        digestChangesNothing();
        Check.end("EdgePromiseTests");
    }

    private static HoundlightProofs small() {
        HoundlightProofs x = new HoundlightProofs();
        x.begin(1, 0, 0, 0);
        return x;
    }

    /** «Creates a loop without BRANCHES.» */
    private static void newLoopIsEmpty() {
        HoundlightProofs x = new HoundlightProofs();
        int[] due = {125, 0, 0, 0, 0, 0, 0, 125, 125, 1, 1, 0, 0, 0, 0, 0};
        for (int what = 0; what < due.length; what++) {
            int w = what;
            Check.same("loop(" + w + ")", due[what], () -> x.loop(w));
        }
        Check.same("the first BRANCH", 0, () -> x.branch(0));
        Check.same("the first GUESS", 0, () -> x.guess(0, 0, 0, 0));
    }

    /** «Creates a loop»: what is told to one is not told to another one. */
    private static void objectsAreTheirOwn() {
        HoundlightProofs x = new HoundlightProofs();
        long before = x.digest();
        HoundlightProofs y = Scenes.busy();
        y.begin(3, 1, 1, 1);
        y.call();
        Check.same("the other one is as it was", before, x::digest);
        Check.same("a third one is new", before, () -> new HoundlightProofs().digest());
    }

    /** «Tells BOUND and START; all GUESSES that were STRUCK are STANDING again.» BRANCHES and counts stay. */
    private static void beginKeepsTheRest() {
        HoundlightProofs x = Scenes.busy();
        Check.same("begin", 13, () -> x.begin(1, 0, 0, 0));
        int[] due = {27, 2, 5, 5, 0, 0, 0, 9, 0, 2, 1, 1, -1, 0, 1, 1};
        for (int what = 0; what < due.length; what++) {
            int w = what;
            Check.same("loop(" + w + ")", due[what], () -> x.loop(w));
        }
        for (int guess = 0; guess < 5; guess++) {
            int g = guess;
            Check.same("what struck " + g, -3, () -> x.ofGuess(g, 5) + x.ofGuess(g, 6) + x.ofGuess(g, 7));
            Check.same("the ROUND of " + g, 0, () -> x.ofGuess(g, 8));
        }
        Check.same("sift", 2, x::sift);
        Check.same("no RUN, but START strikes y >= 1 now", 18L, x::standing);
        Check.same("by START", 1, () -> x.ofGuess(0, 5));
    }

    /** «Tells BOUND»: GUARDS, UPDATES and GUESSES go by the new one. */
    private static void beginTurnsToTheNewBound() {
        HoundlightProofs x = new HoundlightProofs();
        Scenes.setting(x, 0, 3);
        x.guard(0, 1, 0, 0, 1);
        x.guess(0, 0, 0, 1);
        for (int bound : new int[] {3, 1, 2, 1, 3}) {
            int b = bound;
            int start = x.begin(bound, 0, 0, 0);
            Check.same("3 HELD to " + b, Scenes.code(b, b, 0, 0), () -> x.step(0, start));
            Check.same("x <= 1", new int[] {27, 100, 245}[b - 1], () -> x.ofGuess(0, 9));
            Check.same("closed where x is more than 1", new int[] {0, 25, 98}[b - 1], () -> x.loop(7));
            Check.same("the last STATE", b == 1 ? 26 : -1, () -> x.step(0, x.loop(0) - 1));
            Check.same("FOUND", 2, () -> x.loop(9));
        }
    }

    /** «Tells BOUND and START», with 8 BRANCHES and 40 GUESSES */
    private static void beginWithAllThereCanBe() {
        HoundlightProofs x = Scenes.full();
        for (int bound : new int[] {3, 1, 2}) {
            int b = bound;
            Check.same("begin", Scenes.code(b, -b, b, 1), () -> x.begin(b, -b, b, 1));
            int start = Scenes.code(b, -b, b, 1);
            Check.same("the last BRANCH", start - 1, () -> x.step(7, start));
            Check.same("the last GUESS", true, () -> x.holds(39, start - 1));
            Check.same("the last GUESS in START", false, () -> x.holds(39, start));
            Check.same("x stays, y is more than 0", 20, () -> {
                x.sift();
                return x.loop(3);
            });
        }
    }

    /** «Returns the code of START.» */
    private static void beginAnswersStart() {
        HoundlightProofs x = new HoundlightProofs();
        int due = 0;
        for (int first = -1; first <= 1; first++) {
            for (int second = -1; second <= 1; second++) {
                for (int third = -1; third <= 1; third++) {
                    int a = first;
                    int b = second;
                    int c = third;
                    int code = due++;
                    Check.same("begin(1, ..)", code, () -> x.begin(1, a, b, c));
                    Check.same("SOON", 0, () -> x.ofState(code, 6));
                    Check.same("a RUN is over there", code, () -> x.wouldEnd(9, 9));
                }
            }
        }
    }

    /** «Tells a BRANCH, that is OPEN everywhere, and changes nothing (its UPDATE is its VARIABLE once).» */
    private static void branchIsOpenEverywhere() {
        for (int bound = 1; bound <= 3; bound++) {
            for (int variable = 0; variable < 3; variable++) {
                HoundlightProofs x = new HoundlightProofs();
                x.begin(bound, 0, 0, 0);
                Scenes.setting(x, variable, 1);
                x.guard(0, 1, 1, 1, -1);
                int v = variable;
                Check.same("branch", 1, () -> x.branch(v));
                int states = x.loop(0);
                for (int state = 0; state < states; state++) {
                    int s = state;
                    Check.same("changes nothing", state, () -> x.step(1, s));
                }
            }
        }
        HoundlightProofs y = new HoundlightProofs();
        y.branch(2);
        Check.same("no END", 0, () -> y.loop(7));
        y.begin(3, 0, 0, 3);
        Check.same("nor of a greater BOUND", 0, () -> y.loop(7));
        Check.same("it changes nothing there, too", 174, () -> y.wouldEnd(0, 60));
        y.update(0, 0, 0, 1, 1);
        Check.same("its GUARD stays when its UPDATE is told", 0, () -> y.loop(7));
    }

    /** «Returns in how many STATES it is OPEN.» */
    private static void guardAnswersHowMany() {
        HoundlightProofs x = small();
        Scenes.adding(x, 1, 1);
        x.branch(0);
        Check.same("everywhere", 27, () -> x.guard(1, 0, 0, 0, 0));
        Check.same("nowhere", 0, () -> x.guard(1, 0, 0, 0, -1));
        Check.same("in one", 1, () -> x.guard(1, 1, -1, 1, -3));
        Check.same("the other BRANCH stays OPEN", 27, () -> 27 - x.loop(7));
        Check.same("its own VARIABLE or not", 9, () -> x.guard(1, 0, 0, 2, -2));
        x.begin(3, 0, 0, 0);
        Check.same("of 343", 98, () -> x.guard(1, 0, 0, 2, -3));
        Check.same("all of 343", 343, () -> x.guard(1, 0, 0, 2, 6));
    }

    /** «Returns in how many STATES it changes something (OPEN or not).» */
    private static void updateAnswersHowMany() {
        HoundlightProofs x = small();
        x.branch(1);
        Check.same("nowhere", 0, () -> x.update(0, 0, 1, 0, 0));
        Check.same("1 - 2y is y where y is never 1 / 3, but HELD at 1 is -1", 27, () -> x.update(0, 0, -2, 0, 1));
        Check.same("y is 1", 18, () -> x.update(0, 0, 0, 0, 5));
        x.guard(0, 0, 1, 0, -1);
        Check.same("OPEN where y is -1 alone", 18, () -> x.update(0, 0, 0, 0, 1));
        x.guard(0, 0, 0, 0, -1);
        Check.same("closed", 18, () -> x.update(0, 0, 0, 0, -5));
        Check.same("closed, and nowhere", 0, () -> x.update(0, 0, 2, 0, 0));
    }

    private static String learned(HoundlightProofs x, int from) {
        StringBuilder words = new StringBuilder();
        for (int guess = from; guess < x.loop(2); guess++) {
            words.append(x.words(guess)).append("; ");
        }
        return words.toString();
    }

    /** «of each VARIABLE by the STATES of it (START too)»: of a RUN that is over at once. */
    private static void learnOfStartAlone() {
        HoundlightProofs x = new HoundlightProofs();
        x.begin(3, -3, 3, 0);
        Check.same("learn", 9, () -> x.learn(0, 60));
        Check.same("START alone", "x <= -3; x >= -3; y <= 3; y >= 3; z <= 0; z >= 0; x - y <= -6; x - z <= -3; "
            + "y - z <= 3; ", () -> learned(x, 0));
        Check.same("one STATE", 1, () -> x.loop(8));
    }

    /** «KIND 0 with the greatest, KIND 1 with the least number; .. KIND 2 with the greatest difference» */
    private static void learnTakesTheExtremes() {
        HoundlightProofs x = new HoundlightProofs();
        x.begin(3, 3, 0, -3);
        x.branch(0);
        x.update(0, -1, 0, 0, 1);
        Check.same("two turns: 3, -2, 3", 9, () -> x.learn(0, 2));
        Check.same("all three", "x <= 3; x >= -2; y <= 0; y >= 0; z <= -3; z >= -3; x - y <= 3; x - z <= 6; "
            + "y - z <= 3; ", () -> learned(x, 0));
        HoundlightProofs y = new HoundlightProofs();
        y.begin(3, 0, 3, -1);
        Scenes.adding(y, 1, -1);
        Check.same("two turns: y is 3, 2, 1", 9, () -> y.learn(0, 2));
        Check.same("x - y is -3, -2, -1", "x <= 0; x >= 0; y <= 3; y >= 1; z <= -1; z >= -1; x - y <= -1; x - z <= 1; "
            + "y - z <= 4; ", () -> learned(y, 0));
        x.begin(3, -2, 0, -3);
        Check.same("one turn: -2, 3", 9, () -> x.learn(0, 1));
        Check.same("the last STATE counts", "x <= 3; x >= -2", () -> x.words(9) + "; " + x.words(10));
        x.begin(3, -3, 1, -3);
        Check.same("one turn: -3, 3 by 4", 9, () -> x.learn(0, 1));
        Check.same("HELD to 3", "x <= 3; x >= -3", () -> x.words(18) + "; " + x.words(19));
        Check.same("the greatest difference is 2", "x - y <= 2", () -> x.words(24));
        Check.same("i and j are both that VARIABLE", "0 0 1 1 2 2", () -> names(x, 18, 21) + " " + names(x, 22, 23));
        Check.same("0 and 1, 0 and 2, 1 and 2", "0 1 0 2 1 2", () -> names(x, 24, 26));
    }

    /** i and j of each second GUESS of KIND 0, of each one of KIND 2. */
    private static String names(HoundlightProofs x, int from, int to) {
        StringBuilder names = new StringBuilder();
        for (int guess = from; guess <= to; guess += x.ofGuess(guess, 0) == 2 ? 1 : 2) {
            names.append(x.ofGuess(guess, 1)).append(' ').append(x.ofGuess(guess, 2)).append(' ');
        }
        return names.toString().trim();
    }

    /** «Makes GUESSES of a RUN that strikes nothing» */
    private static void learnStrikesNothing() {
        HoundlightProofs x = Scenes.follower();
        x.guess(0, 0, 0, 0);
        x.guess(1, 1, 1, 1);
        Check.same("learn", 9, () -> x.learn(0, 60));
        Check.same("all stand", 2047L, x::standing);
        Check.same("none by a RUN", 0, () -> x.loop(4));
        Check.same("what is learned HOLDS in the RUN", 2, () -> x.run(0, 60));
        Check.same("the two ahead of it fell", 2044L, x::standing);
    }

    /** «as long as there is room. Returns how many are made.» */
    private static void learnAsLongAsThereIsRoom() {
        String[] due = {"x <= 1; ", "x >= 0; ", "y <= 1; ", "y >= 1; ", "z <= -1; ", "z >= -1; ", "x - y <= 0; ",
            "x - z <= 2; ", "y - z <= 2; "};
        for (int room = 0; room <= 10; room++) {
            HoundlightProofs x = Scenes.follower();
            x.begin(1, 0, 1, -1);
            x.guard(1, 0, 0, 0, -1);
            for (int guess = room; guess < 40; guess++) {
                x.guess(4, 0, 0, 0);
            }
            int made = room < 9 ? room : 9;
            StringBuilder words = new StringBuilder();
            for (int guess = 0; guess < made; guess++) {
                words.append(due[guess]);
            }
            int before = 40 - room;
            Check.same("room for " + room, made, () -> x.learn(1, 60));
            Check.same("in their order", words.toString(), () -> learned(x, before));
            Check.same("no more", before + made, () -> x.loop(2));
        }
    }

    /** «Returns how many are STRUCK by it.» */
    private static void runAnswersHowMany() {
        HoundlightProofs x = small();
        for (int guess = 0; guess < 40; guess++) {
            x.guess(1, guess % 3, 0, 1);
        }
        Check.same("all forty", 40, () -> x.run(0, 1));
        Check.same("none", 0, () -> x.run(0, 1));
        Check.same("by RUNS", 40, () -> x.loop(4));
        x.begin(1, 1, 0, 1);
        Check.same("13 of y", 13, () -> x.run(198, 60));
        Check.same("without GUESSES", 0, () -> small().run(0, 1));
    }

    /** «Returns how many ROUNDS there were (the last one, too).» */
    private static void siftOfMany() {
        HoundlightProofs x = Scenes.follower();
        for (int guess = 0; guess < 40; guess++) {
            x.guess(0, guess % 3, 0, 0);
        }
        Check.same("all of x fall in one ROUND", 2, x::sift);
        Check.same("14 of them", 14, () -> x.loop(6));
        Check.same("again", 1, x::sift);
        Check.same("where START strikes all", 1, () -> {
            x.begin(1, 1, 1, 1);
            return x.sift();
        });
        Check.same("forty", 40, () -> x.loop(5));
    }

    /** «by what it was STRUCK .. (NONE), 6 the code of the STATE .., 7 the BRANCH (of a STEP; otherwise NONE) ..» */
    private static void ofGuessOfStrikes() {
        HoundlightProofs x = Scenes.busy();
        int[][] due = {{0, 0, 13, -1, 0}, {1, -1, -1, -1, 0}, {0, 1, 13, -1, 0}, {0, 2, 9, 0, 1}, {1, -1, -1, -1, 0}};
        for (int guess = 0; guess < 5; guess++) {
            for (int what = 4; what <= 8; what++) {
                int g = guess;
                int w = what;
                Check.same("ofGuess(" + g + ", " + w + ")", due[g][w - 4], () -> x.ofGuess(g, w));
            }
        }
    }

    /** «9 in how many STATES it HOLDS» */
    private static void ofGuessHowMany() {
        HoundlightProofs x = small();
        x.guess(0, 0, 0, 1);
        x.guess(0, 0, 0, -2);
        x.guess(3, 0, 0, -2);
        x.guess(6, 1, 2, 0);
        x.guess(6, 0, 1, 0);
        int[] due = {27, 0, 9, 27, 0};
        for (int bound = 1; bound <= 3; bound++) {
            for (int guess = 0; guess < 5; guess++) {
                int g = guess;
                Check.same("ofGuess(" + g + ", 9)", due[g], () -> x.ofGuess(g, 9));
            }
            x.begin(bound % 3 + 1, 0, 0, 0);
            due = bound == 1 ? new int[] {100, 25, 50, 125, 50} : new int[] {245, 98, 147, 343, 196};
        }
        Check.same("of 27 again", 27, () -> x.ofGuess(0, 9));
    }

    /** «Returns the code of the STATE to which it goes; NONE, if it is not OPEN there.» */
    private static void stepToItself() {
        HoundlightProofs x = Scenes.follower();
        Check.same("y follows x: it is there", 13, () -> x.step(1, 13));
        Check.same("x goes up", 22, () -> x.step(0, 13));
        Check.same("closed", -1, () -> x.step(0, 22));
        Check.same("from what is not FOUND, too", 9, () -> x.step(0, 0));
        x.begin(1, -1, -1, -1);
        x.update(0, 0, 0, 0, -1);
        Check.same("to the STATE 0", 0, () -> x.step(0, 9));
    }

    /** «5 1 if all that are STANDING HOLD there»: none STANDING is all of them. */
    private static void ofStateOfStanding() {
        HoundlightProofs x = small();
        Check.same("without GUESSES", 1, () -> x.ofState(13, 5));
        x.guess(1, 0, 0, 1);
        Check.same("it does not HOLD there", 0, () -> x.ofState(13, 5));
        Check.same("but there", 1, () -> x.ofState(22, 5));
        x.run(0, 1);
        Check.same("all are struck", 1, () -> x.ofState(13, 5));
        for (int guess = 1; guess < 40; guess++) {
            x.guess(0, 0, 0, guess == 39 ? 0 : 1);
        }
        Check.same("the last of forty", 0, () -> x.ofState(22, 5));
        Check.same("where it HOLDS", 1, () -> x.ofState(13, 5));
    }

    /** «7 ENDS, 8 STATES in which all that are STANDING HOLD», «10 ENDS of these» */
    private static void loopOfEnds() {
        HoundlightProofs x = small();
        Check.same("all", 27, () -> x.loop(7));
        Check.same("START", 1, () -> x.loop(10));
        Scenes.adding(x, 0, 1);
        Check.same("none", 0, () -> x.loop(7));
        Check.same("none FOUND", 0, () -> x.loop(10));
        x.guard(0, 0, 1, 0, 0);
        Check.same("where y is 1", 9, () -> x.loop(7));
        Check.same("not FOUND", 0, () -> x.loop(10));
        x.begin(1, 0, 1, 0);
        Check.same("START", 1, () -> x.loop(10));
        Check.same("without GUESSES all HOLD everywhere", 27, () -> x.loop(8));
        x.guess(0, 0, 0, -2);
        Check.same("nowhere", 0, () -> x.loop(8));
        x.sift();
        Check.same("STRUCK: everywhere", 27, () -> x.loop(8));
    }

    /** «9 STATES that are FOUND, .. 11 the greatest SOON» */
    private static void loopOfFound() {
        HoundlightProofs x = new HoundlightProofs();
        x.begin(3, 3, 0, 0);
        Check.same("START", 1, () -> x.loop(9));
        Check.same("no STEP", 0, () -> x.loop(11));
        Scenes.adding(x, 0, -1);
        Check.same("seven numbers", 7, () -> x.loop(9));
        Check.same("six STEPS, to a smaller code", 6, () -> x.loop(11));
        Scenes.adding(x, 1, 1);
        Check.same("by four", 28, () -> x.loop(9));
        Check.same("and three STEPS", 9, () -> x.loop(11));
    }

    /** «2 GUESSES, 3 STANDING ones, 4 those STRUCK by a RUN, 5 by START, 6 by a STEP» */
    private static void loopOfStrikes() {
        HoundlightProofs x = Scenes.busy();
        Check.same("each", "5 2 1 1 1", () -> strikes(x));
        x.guess(1, 2, 2, 1);
        x.guess(1, 1, 1, 1);
        Check.same("two new ones", "7 4 1 1 1", () -> strikes(x));
        x.run(0, 1);
        Check.same("by a RUN", "7 2 3 1 1", () -> strikes(x));
        x.guess(0, 0, 0, 0);
        x.sift();
        Check.same("by a STEP", "8 2 3 1 2", () -> strikes(x));
        x.begin(1, 0, 0, 0);
        Check.same("begun anew", "8 8 0 0 0", () -> strikes(x));
    }

    private static String strikes(HoundlightProofs x) {
        return x.loop(2) + " " + x.loop(3) + " " + x.loop(4) + " " + x.loop(5) + " " + x.loop(6);
    }

    /** «14 how often sift() was called ever» */
    private static void loopOfSifts() {
        HoundlightProofs x = Scenes.busy();
        Check.same("once", 1, () -> x.loop(14));
        x.needed(1);
        x.wouldKeep(1);
        x.isSound();
        x.digest();
        Check.same("what would be does not count", 1, () -> x.loop(14));
        x.begin(1, 0, 0, 0);
        Check.same("begun anew", 1, () -> x.loop(14));
        x.sift();
        x.sift();
        Check.same("thrice", 3, () -> x.loop(14));
    }

    /** «Returns the set of GUESSES that are STANDING.» */
    private static void standingOfNoneAndAll() {
        HoundlightProofs x = small();
        Check.same("without GUESSES", 0L, x::standing);
        for (int guess = 0; guess < 40; guess++) {
            x.guess(1, 0, 0, guess == 0 || guess == 39 ? 0 : 1);
        }
        Check.same("all forty", 1099511627775L, x::standing);
        x.sift();
        Check.same("the first and the last", 549755813889L, x::standing);
        x.begin(1, -1, 0, 0);
        x.run(0, 1);
        Check.same("all are struck", 0L, x::standing);
    }

    /** «"x", "y", "z" for the VARIABLES 0 to 2: KIND 0 "x <= 3", 1 "x >= -1", 2 "x - y <= 2", 3 "x + y <= 4" ..» */
    private static void wordsOfEachKind() {
        HoundlightProofs x = small();
        String[][] due = {{"x <= 3", "y <= 3", "z <= 3"}, {"x >= 3", "y >= 3", "z >= 3"},
            {"x - z <= 3", "y - x <= 3", "z - y <= 3"}, {"x + z <= 3", "y + x <= 3", "z + y <= 3"},
            {"x = 1 by 2", "y = 1 by 2", "z = 1 by 2"}, {"x + z = 0 by 3", "y + x = 0 by 3", "z + y = 0 by 3"},
            {"0 -> 2", "1 -> 0", "2 -> 1"}};
        for (int kind = 0; kind <= 6; kind++) {
            for (int i = 0; i < 3; i++) {
                int guess = x.guess(kind, i, (i + 2) % 3, 3);
                Check.same("words", due[kind][i], () -> x.words(guess));
            }
        }
    }

    /** «(with the REST of c)», and numbers below 0, of one and of two digits */
    private static void wordsOfNumbers() {
        HoundlightProofs x = small();
        int[] numbers = {-9, -1, 0, 9};
        for (int c : numbers) {
            int guess = x.guess(0, 0, 0, c);
            x.guess(1, 1, 0, c);
            x.guess(2, 0, 0, c);
            x.guess(3, 1, 1, c);
            x.guess(4, 2, 0, c);
            x.guess(5, 2, 2, c);
            Check.same("KIND 0", "x <= " + c, () -> x.words(guess));
            Check.same("KIND 1", "y >= " + c, () -> x.words(guess + 1));
            Check.same("KIND 2", "x - x <= " + c, () -> x.words(guess + 2));
            Check.same("KIND 3", "y + y <= " + c, () -> x.words(guess + 3));
            Check.same("KIND 4", c == 0 ? "z = 0 by 2" : "z = 1 by 2", () -> x.words(guess + 4));
            Check.same("KIND 5", c == -1 ? "z + z = 2 by 3" : "z + z = 0 by 3", () -> x.words(guess + 5));
        }
        x.guess(6, 0, 10, -9);
        x.guess(6, 23, 9, 9);
        Check.same("KIND 6, without c", "0 -> 10", () -> x.words(24));
        Check.same("KIND 6, without c", "23 -> 9", () -> x.words(25));
        for (int guess = 26; guess < 39; guess++) {
            x.guess(0, 0, 0, 0);
        }
        x.guess(6, 38, 37, 0);
        Check.same("the last there can be", "38 -> 37", () -> x.words(39));
    }

    /** «with " (struck)" behind it, if it is not STANDING» */
    private static void wordsOfStruck() {
        HoundlightProofs x = Scenes.busy();
        String[] due = {"y >= 1 (struck)", "z <= 0", "z >= 1 (struck)", "x <= 0 (struck)", "3 -> 1"};
        for (int guess = 0; guess < 5; guess++) {
            int g = guess;
            Check.same("words(" + g + ")", due[g], () -> x.words(g));
        }
        x.guess(2, 0, 1, -1);
        x.guess(3, 0, 1, -1);
        x.guess(4, 0, 1, 1);
        x.guess(5, 0, 1, 1);
        x.guess(6, 1, 0, 0);
        x.run(0, 1);
        String[] more = {"x - y <= -1", "x + y <= -1", "x = 1 by 2", "x + y = 1 by 3", "1 -> 0"};
        for (int guess = 0; guess < 5; guess++) {
            int g = guess;
            Check.same("each KIND", more[g] + " (struck)", () -> x.words(g + 5));
        }
        x.begin(1, 0, 0, 0);
        Check.same("STANDING again", "1 -> 0", () -> x.words(9));
    }

    /** «Returns the part of all GUESSES that are STANDING, as a double (1.0 without GUESSES).» */
    private static void partOfNoneAndSome() {
        HoundlightProofs x = small();
        Check.same("without GUESSES", 1.0, x::part);
        x.guess(1, 0, 0, 1);
        Check.same("all", 1.0, x::part);
        x.run(0, 1);
        Check.same("none", 0.0, x::part);
        x.guess(1, 0, 0, 0);
        Check.same("a half", 0.5, x::part);
        x.guess(1, 0, 0, 0);
        Check.same("two thirds", 2.0 / 3.0, x::part);
        for (int guess = 3; guess < 40; guess++) {
            x.guess(1, 0, 0, 0);
        }
        Check.same("39 of 40", 39.0 / 40.0, x::part);
        x.begin(1, 0, 0, 0);
        Check.same("begun anew", 1.0, x::part);
    }

    /** «Returns how many would be STANDING behind a SIFT of the GUESSES that are STANDING, but that one.» */
    private static void wouldKeepButThatOne() {
        HoundlightProofs x = Scenes.follower();
        x.guard(0, 0, -1, 0, -1);
        x.guard(1, 0, 0, -1, -1);
        x.guess(0, 2, 2, 0);
        x.guess(0, 1, 1, 0);
        x.guess(0, 0, 0, 0);
        x.update(1, 0, 0, 1, 0);
        x.sift();
        Check.same("all three are KEPT", 7L, x::standing);
        Check.same("without z <= 0 none is", 0, () -> x.wouldKeep(0));
        Check.same("without y <= 0 z <= 0 is", 1, () -> x.wouldKeep(1));
        Check.same("without x <= 0 both others are", 2, () -> x.wouldKeep(2));
        Check.same("nothing is changed", 7L, x::standing);
    }

    /** «behind a SIFT»: START strikes, too, and it need not be SIFTED. */
    private static void wouldKeepOfStart() {
        HoundlightProofs x = small();
        x.guess(1, 0, 0, 1);
        x.guess(0, 1, 1, 0);
        Check.same("x >= 1 does not HOLD in START", 0, () -> x.wouldKeep(1));
        Check.same("y <= 0 does", 1, () -> x.wouldKeep(0));
        Check.same("both still stand", 3L, x::standing);
        x.begin(1, 1, 0, 0);
        Check.same("x is 1", 1, () -> x.wouldKeep(1));
        HoundlightProofs y = small();
        Scenes.adding(y, 0, 1);
        y.guard(0, 0, 1, 0, -1);
        y.guess(0, 0, 0, 0);
        y.guess(1, 1, 1, 1);
        y.guess(0, 2, 2, 0);
        Check.same("y >= 1 is struck by START, so that x goes up, where y is -1", 0, () -> y.wouldKeep(2));
        Check.same("z <= 0 is left", 1, () -> y.wouldKeep(0));
    }

    /** «of the GUESSES that are STANDING, but that one»: a STRUCK one is none of them. */
    private static void wouldKeepOfStruck() {
        HoundlightProofs x = Scenes.busy();
        for (int guess : new int[] {0, 2, 3}) {
            int g = guess;
            Check.same("wouldKeep(" + g + ")", 2, () -> x.wouldKeep(g));
        }
        Check.same("a STANDING one", 1, () -> x.wouldKeep(1));
        Check.same("the only one", 0, () -> {
            HoundlightProofs y = small();
            y.guess(0, 0, 0, 0);
            return y.wouldKeep(0);
        });
    }

    /** «Returns in how many STATES that are FOUND it does not HOLD.» */
    private static void liesStruckOrNot() {
        HoundlightProofs x = new HoundlightProofs();
        x.begin(3, -3, -3, -3);
        for (int variable = 0; variable < 3; variable++) {
            Scenes.adding(x, variable, 1);
        }
        x.guess(0, 0, 0, -4);
        x.guess(0, 0, 0, 2);
        x.guess(0, 0, 0, 3);
        Check.same("everywhere", 343, () -> x.lies(0));
        Check.same("where x is 3", 49, () -> x.lies(1));
        Check.same("nowhere", 0, () -> x.lies(2));
        x.sift();
        Check.same("struck", 343, () -> x.lies(0));
        Check.same("struck", 49, () -> x.lies(1));
        x.guard(0, 0, 0, 0, -1);
        Check.same("x stays at -3", 49, () -> x.lies(0));
        Check.same("so that it is never 3", 0, () -> x.lies(1));
    }

    /** «what would be (nothing is changed)» */
    private static void wouldEndChangesNothing() {
        HoundlightProofs x = Scenes.busy();
        String before = Scenes.tour(Scenes.busy());
        x.guess(1, 0, 0, -1);
        x.sift();
        HoundlightProofs y = Scenes.busy();
        y.wouldEnd(0, 60);
        y.wouldKeep(1);
        y.lies(1);
        y.isSound();
        y.digest();
        Check.same("all answers", before, () -> Scenes.tour(y));
        y.guess(1, 0, 0, -1);
        y.sift();
        Check.same("and all behind it", x.digest(), y::digest);
    }

    /** «Returns the code of the STATE in which a RUN would be over.» */
    private static void wouldEndJustThere() {
        HoundlightProofs x = new HoundlightProofs();
        Check.same("START is an END", 62, () -> x.wouldEnd(198, 60));
        x.begin(1, -1, -1, -1);
        Check.same("the STATE 0", 0, () -> x.wouldEnd(0, 1));
        Scenes.adding(x, 2, 1);
        x.guard(0, 0, 0, 1, 0);
        Check.same("one turn", 1, () -> x.wouldEnd(0, 1));
        Check.same("two turns, an END", 2, () -> x.wouldEnd(0, 2));
        Check.same("over there", 2, () -> x.wouldEnd(0, 3));
        x.guard(0, 0, 0, 0, 0);
        Check.same("a STEP that stays", 2, () -> x.wouldEnd(0, 60));
    }

    /** «Returns whether all of this is so», SIFTED or not, with what is struck by each, in each BOUND. */
    private static void soundInEachState() {
        HoundlightProofs x = new HoundlightProofs();
        Check.same("new", true, x::isSound);
        HoundlightProofs y = Scenes.busy();
        Check.same("SIFTED", true, y::isSound);
        y.guess(1, 0, 0, 1);
        Check.same("not SIFTED, a lie stands", true, y::isSound);
        y.guard(0, 0, 0, 0, 0);
        y.update(1, 0, 0, 0, 1);
        Check.same("another loop than that by which they were struck", true, y::isSound);
        y.begin(3, -3, 3, 0);
        Check.same("begun anew", true, y::isSound);
        y.sift();
        Check.same("SIFTED anew", true, y::isSound);
        HoundlightProofs z = Scenes.full();
        Check.same("full", true, z::isSound);
        z.run(198, 60);
        Check.same("behind a RUN", true, z::isSound);
    }

    /** «A number d starts with 6029; then d becomes d * 31 + v .. for each v in this order» */
    private static void digestOfANewObject() {
        long[] v = {125, 0, 0, 0, 0, 0, 0, 125, 125, 1, 1, 0, 0, 0, 0, 0, 0, 62, 62, 64, 1};
        long d = 6029;
        for (long next : v) {
            d = d * 31 + next;
        }
        long due = d;
        Check.same("without GUESSES and BRANCHES", due, () -> new HoundlightProofs().digest());
    }

    private static long withLoop(HoundlightProofs x) {
        long d = 6029;
        for (int what = 0; what < 16; what++) {
            d = d * 31 + x.loop(what);
        }
        return d;
    }

    private static long withGuess(long before, HoundlightProofs x, int guess) {
        long d = before;
        for (int what = 0; what < 10; what++) {
            d = d * 31 + x.ofGuess(guess, what);
        }
        for (int what = 0; what < 5; what++) {
            d = d * 31 + x.goal(guess, what);
        }
        return d * 31 + x.lies(guess);
    }

    private static long withEnds(long before, HoundlightProofs x) {
        return ((before * 31 + x.standing()) * 31 + x.wouldEnd(1, 1)) * 31 + x.wouldEnd(9, 9);
    }

    /** «which wraps around as a 64-bit integer, for each v in this order»: with all that there can be. */
    private static void digestOfAll() {
        HoundlightProofs x = Scenes.full();
        long d = withLoop(x);
        for (int guess = 0; guess < 40; guess++) {
            d = withGuess(d, Scenes.full(), guess);
        }
        for (int branch = 0; branch < 8; branch++) {
            d = d * 31 + x.step(branch, 13);
        }
        long due = (withEnds(d, x) * 31 + 64) * 31 + 1;
        Check.same("full, and all stand", due, x::digest);
    }

    /** «BRANCH by BRANCH step() from START», NONE too */
    private static void digestOfSteps() {
        HoundlightProofs x = Scenes.busy();
        x.begin(1, 1, 0, -1);
        x.guard(1, 0, 0, 0, 0);
        long d = withLoop(x);
        for (int guess = 0; guess < 5; guess++) {
            d = withGuess(d, x, guess);
        }
        d = (d * 31 - 1) * 31 + Scenes.code(1, 1, 1, -1);
        long due = (withEnds(d, x) * 31 + 64) * 31 + 1;
        Check.same("one is closed in START, one OPEN", due, x::digest);
    }

    /** «wouldEnd() of 1 and 1, then of 9 and 9 (seed and turns)», where other seeds and turns end elsewhere */
    private static void digestOfEnds() {
        HoundlightProofs x = new HoundlightProofs();
        x.begin(3, -3, -3, -3);
        Scenes.adding(x, 0, 1);
        Scenes.adding(x, 1, 1);
        Scenes.adding(x, 2, 1);
        Check.same("seed 1 draws 60: place 0", 49, () -> x.wouldEnd(1, 1));
        Check.same("seed 0 does not", true, () -> x.wouldEnd(0, 1) != 49 && x.wouldEnd(1, 2) != 49);
        int nine = x.wouldEnd(9, 9);
        Check.same("nor do others", true, () -> x.wouldEnd(9, 8) != nine && x.wouldEnd(9, 10) != nine);
        long d = withLoop(x);
        for (int step : new int[] {49, 7, 1}) {
            d = d * 31 + step;
        }
        long due = ((((d * 31) * 31 + 49) * 31 + nine) * 31 + 64) * 31 + 1;
        Check.same("without GUESSES", due, x::digest);
    }

    /** «64 times part() (that product cut to a whole number)» */
    private static void digestCutsThePart() {
        int[] due = {0, 32, 42, 48, 51, 53, 54};
        String[] parts = {"none", "a half of 64: 32", "two thirds: 42.7", "three quarters: 48", "four fifths: 51.2",
            "five sixths: 53.3", "six sevenths: 54.9"};
        for (int standing = 0; standing <= 6; standing++) {
            HoundlightProofs x = small();
            x.guess(1, 0, 0, 1);
            x.run(0, 1);
            for (int guess = 0; guess < standing; guess++) {
                x.guess(1, 0, 0, 0);
            }
            long d = withLoop(x);
            for (int guess = 0; guess <= standing; guess++) {
                d = withGuess(d, x, guess);
            }
            long whole = (withEnds(d, x) * 31 + due[standing]) * 31 + 1;
            Check.same(parts[standing], whole, x::digest);
        }
    }

    /** The digest is asked: a second one is the same, and so is all else. */
    private static void digestChangesNothing() {
        HoundlightProofs x = Scenes.busy();
        long before = x.digest();
        Check.same("once more", before, x::digest);
        Check.same("of the same calls", before, () -> Scenes.busy().digest());
        x.call();
        Check.same("of one call more", false, () -> before == x.digest());
    }
}
