import java.util.ArrayList;
import java.util.List;
import java.util.Set;
import java.util.TreeSet;

/** The document once more, in its own words and slowly: nothing is kept that can be worked out. */
final class Model {
    private static final class Branch {
        int variable;
        int[] guard = {0, 0, 0};
        int c = 0;
        int[] update = {0, 0, 0};
        int e = 0;
    }

    private static final class Guess {
        int kind;
        int i;
        int j;
        int c;
        boolean standing = true;
        int by = -1;
        int state = -1;
        int branch = -1;
        int round = 0;
    }

    private int bound = 2;
    private int start = 62;
    private final List<Branch> branches = new ArrayList<>();
    private final List<Guess> guesses = new ArrayList<>();
    private boolean sifted = false;
    private int sifts = 0;
    private int refused = 0;

    private static void argument(boolean good) {
        if (!good) {
            throw new IllegalArgumentException();
        }
    }

    private static void index(int number, int most) {
        if (number < 0 || number >= most) {
            throw new IndexOutOfBoundsException();
        }
    }

    private static void state(boolean good) {
        if (!good) {
            throw new IllegalStateException();
        }
    }

    private static boolean within(long number, long most) {
        return number >= -most && number <= most;
    }

    private int states() {
        return (2 * bound + 1) * (2 * bound + 1) * (2 * bound + 1);
    }

    private int[] numbers(int state) {
        int base = 2 * bound + 1;
        return new int[] {state / base / base - bound, state / base % base - bound, state % base - bound};
    }

    private int code(int[] numbers) {
        int code = 0;
        for (int number : numbers) {
            code = code * (2 * bound + 1) + number + bound;
        }
        return code;
    }

    private static int sum(int[] coefficients, int[] numbers) {
        return coefficients[0] * numbers[0] + coefficients[1] * numbers[1] + coefficients[2] * numbers[2];
    }

    private static int rest(int number, int by) {
        return (number % by + by) % by;
    }

    private boolean open(Branch b, int state) {
        return sum(b.guard, numbers(state)) <= b.c;
    }

    private int next(Branch b, int state) {
        int[] from = numbers(state);
        int[] to = from.clone();
        int number = sum(b.update, from) + b.e;
        to[b.variable] = number < -bound ? -bound : number > bound ? bound : number;
        return code(to);
    }

    private List<Integer> opens(int state) {
        List<Integer> open = new ArrayList<>();
        for (int b = 0; b < branches.size(); b++) {
            if (open(branches.get(b), state)) {
                open.add(b);
            }
        }
        return open;
    }

    private boolean so(int guess, int state) {
        Guess g = guesses.get(guess);
        if (g.kind == 6) {
            return !so(g.i, state) || so(g.j, state);
        }
        int i = numbers(state)[g.i];
        int j = numbers(state)[g.j];
        return g.kind == 0 && i <= g.c || g.kind == 1 && i >= g.c || g.kind == 2 && i - j <= g.c
            || g.kind == 3 && i + j <= g.c || g.kind == 4 && rest(i, 2) == rest(g.c, 2)
            || g.kind == 5 && rest(i + j, 3) == rest(g.c, 3);
    }

    private boolean allSo(Set<Integer> set, int state) {
        return set.stream().allMatch(g -> so(g, state));
    }

    private Set<Integer> left() {
        Set<Integer> set = new TreeSet<>();
        for (int g = 0; g < guesses.size(); g++) {
            if (guesses.get(g).standing) {
                set.add(g);
            }
        }
        return set;
    }

    private void strike(int guess, int by, int state, int branch, int round) {
        Guess g = guesses.get(guess);
        g.standing = false;
        g.by = by;
        g.state = state;
        g.branch = branch;
        g.round = round;
    }

    private List<Integer> path(int seed, int turns) {
        List<Integer> path = new ArrayList<>(List.of(start));
        int drawn = seed;
        int at = start;
        while (path.size() <= turns && !opens(at).isEmpty()) {
            drawn = (43 * drawn + 17) % 199;
            at = next(branches.get(opens(at).get(drawn % opens(at).size())), at);
            path.add(at);
        }
        return path;
    }

    private int[] soon() {
        int[] soon = new int[states()];
        java.util.Arrays.fill(soon, -1);
        soon[start] = 0;
        for (int steps = 0; steps < soon.length; steps++) {
            for (int s = 0; s < soon.length; s++) {
                for (int b : soon[s] == steps ? opens(s) : List.<Integer>of()) {
                    int to = next(branches.get(b), s);
                    soon[to] = soon[to] == -1 ? steps + 1 : soon[to];
                }
            }
        }
        return soon;
    }

    private Set<Integer> kept(Set<Integer> of) {
        Set<Integer> kept = new TreeSet<>(of);
        kept.removeIf(g -> !so(g, start));
        boolean again = true;
        while (again) {
            Set<Integer> fallen = new TreeSet<>();
            for (int s = 0; s < states(); s++) {
                if (allSo(kept, s)) {
                    for (int b : opens(s)) {
                        int to = next(branches.get(b), s);
                        kept.stream().filter(g -> !so(g, to)).forEach(fallen::add);
                    }
                }
            }
            again = kept.removeAll(fallen);
        }
        return kept;
    }

    private int witness(int goal, Set<Integer> set, boolean ends) {
        for (int s = 0; s < states(); s++) {
            if (allSo(set, s) && (!ends || opens(s).isEmpty()) && !so(goal, s)) {
                return s;
            }
        }
        return -1;
    }

    private static long sum(Set<Integer> set) {
        return set.stream().mapToLong(g -> 1L << g).sum();
    }

    int begin(int b, int first, int second, int third) {
        argument(b >= 1 && b <= 3);
        argument(within(first, b) && within(second, b) && within(third, b));
        bound = b;
        start = code(new int[] {first, second, third});
        for (int g = 0; g < guesses.size(); g++) {
            strike(g, -1, -1, -1, 0);
            guesses.get(g).standing = true;
        }
        sifted = false;
        return start;
    }

    int branch(int variable) {
        index(variable, 3);
        state(branches.size() < 8);
        Branch b = new Branch();
        b.variable = variable;
        b.update[variable] = 1;
        branches.add(b);
        sifted = false;
        return branches.size() - 1;
    }

    int guard(int branch, int first, int second, int third, int c) {
        index(branch, branches.size());
        argument(within(first, 2) && within(second, 2) && within(third, 2) && within(c, 20));
        Branch b = branches.get(branch);
        b.guard = new int[] {first, second, third};
        b.c = c;
        sifted = false;
        int count = 0;
        for (int s = 0; s < states(); s++) {
            count += open(b, s) ? 1 : 0;
        }
        return count;
    }

    int update(int branch, int first, int second, int third, int e) {
        index(branch, branches.size());
        argument(within(first, 2) && within(second, 2) && within(third, 2) && within(e, 5));
        Branch b = branches.get(branch);
        b.update = new int[] {first, second, third};
        b.e = e;
        sifted = false;
        int count = 0;
        for (int s = 0; s < states(); s++) {
            count += next(b, s) == s ? 0 : 1;
        }
        return count;
    }

    int guess(int kind, int i, int j, int c) {
        argument(kind >= 0 && kind <= 6 && within(c, 9));
        if (kind < 6) {
            argument(i >= 0 && i <= 2 && j >= 0 && j <= 2);
        } else {
            argument(i >= 0 && i < guesses.size() && j >= 0 && j < guesses.size());
            argument(guesses.get(i).kind < 6 && guesses.get(j).kind < 6);
        }
        state(guesses.size() < 40);
        sifted = false;
        return made(kind, i, j, c);
    }

    private int made(int kind, int i, int j, int c) {
        Guess g = new Guess();
        g.kind = kind;
        g.i = i;
        g.j = j;
        g.c = c;
        guesses.add(g);
        return guesses.size() - 1;
    }

    int learn(int seed, int turns) {
        argument(seed >= 0 && seed <= 198 && turns >= 1 && turns <= 60);
        int before = guesses.size();
        List<int[]> path = path(seed, turns).stream().map(this::numbers).toList();
        int[][] due = {{0, 0, 0}, {1, 0, 0}, {0, 1, 1}, {1, 1, 1}, {0, 2, 2}, {1, 2, 2}, {2, 0, 1}, {2, 0, 2},
            {2, 1, 2}};
        for (int[] d : due) {
            if (guesses.size() < 40) {
                var values = path.stream().mapToInt(n -> d[0] == 2 ? n[d[1]] - n[d[2]] : n[d[1]]).summaryStatistics();
                made(d[0], d[1], d[2], d[0] == 1 ? values.getMin() : values.getMax());
            }
        }
        sifted = false;
        return guesses.size() - before;
    }

    int run(int seed, int turns) {
        argument(seed >= 0 && seed <= 198 && turns >= 1 && turns <= 60);
        int struck = 0;
        for (int s : path(seed, turns)) {
            for (int g : left()) {
                if (!so(g, s)) {
                    strike(g, 0, s, -1, 0);
                    struck++;
                }
            }
        }
        sifted = false;
        return struck;
    }

    int sift() {
        for (int g : left()) {
            if (!so(g, start)) {
                strike(g, 1, start, -1, 0);
            }
        }
        int round = 0;
        boolean any = true;
        while (any) {
            round++;
            any = false;
            Set<Integer> began = left();
            for (int s = 0; s < states(); s++) {
                for (int b : allSo(began, s) ? opens(s) : List.<Integer>of()) {
                    int to = next(branches.get(b), s);
                    for (int g : began) {
                        if (guesses.get(g).standing && !so(g, to)) {
                            strike(g, 2, s, b, round);
                            any = true;
                        }
                    }
                }
            }
        }
        sifted = true;
        sifts++;
        return round;
    }

    int call() {
        return ++refused;
    }

    int ofGuess(int guess, int what) {
        index(guess, guesses.size());
        argument(what >= 0 && what <= 9);
        Guess g = guesses.get(guess);
        int holds = 0;
        for (int s = 0; s < states(); s++) {
            holds += so(guess, s) ? 1 : 0;
        }
        return new int[] {g.kind, g.i, g.j, g.c, g.standing ? 1 : 0, g.by, g.state, g.branch, g.round, holds}[what];
    }

    boolean holds(int guess, int state) {
        index(guess, guesses.size());
        index(state, states());
        return so(guess, state);
    }

    int step(int branch, int state) {
        index(branch, branches.size());
        index(state, states());
        return open(branches.get(branch), state) ? next(branches.get(branch), state) : -1;
    }

    int ofState(int state, int what) {
        index(state, states());
        argument(what >= 0 && what <= 6);
        int[] n = numbers(state);
        return new int[] {n[0], n[1], n[2], opens(state).size(), opens(state).isEmpty() ? 1 : 0,
            allSo(left(), state) ? 1 : 0, soon()[state]}[what];
    }

    int goal(int goal, int what) {
        index(goal, guesses.size());
        argument(what >= 0 && what <= 4);
        int safe = witness(goal, left(), false);
        int done = witness(goal, left(), true);
        return new int[] {safe == -1 ? 1 : 0, done == -1 ? 1 : 0, safe, done, lies(goal) == 0 ? 1 : 0}[what];
    }

    /** The other way to read "these are what is left": the others, KEPT or not; what is asked last is the same. */
    long needed(int goal) {
        index(goal, guesses.size());
        state(sifted);
        state(witness(goal, left(), false) == -1);
        Set<Integer> left = left();
        for (int g = guesses.size() - 1; g >= 0; g--) {
            Set<Integer> others = new TreeSet<>(left);
            if (others.remove(g) && witness(goal, kept(others), false) == -1) {
                left = others;
            }
        }
        return sum(left);
    }

    int loop(int what) {
        argument(what >= 0 && what <= 15);
        int[] by = new int[3];
        for (Guess g : guesses) {
            if (g.by != -1) {
                by[g.by]++;
            }
        }
        int[] soon = soon();
        int ends = 0;
        int all = 0;
        int found = 0;
        int foundEnds = 0;
        int most = 0;
        for (int s = 0; s < states(); s++) {
            ends += opens(s).isEmpty() ? 1 : 0;
            all += allSo(left(), s) ? 1 : 0;
            found += soon[s] >= 0 ? 1 : 0;
            foundEnds += soon[s] >= 0 && opens(s).isEmpty() ? 1 : 0;
            most = Math.max(most, soon[s]);
        }
        return new int[] {states(), branches.size(), guesses.size(), left().size(), by[0], by[1], by[2], ends, all,
            found, foundEnds, most, what == 12 ? fall(soon) : 0, sifted ? 1 : 0, sifts, refused}[what];
    }

    private int fall(int[] soon) {
        for (int number = 0; number < 125; number++) {
            int[] c = {number / 25 - 2, number / 5 % 5 - 2, number % 5 - 2};
            boolean falls = true;
            for (int s = 0; s < states() && falls; s++) {
                for (int b : soon[s] >= 0 ? opens(s) : List.<Integer>of()) {
                    falls &= sum(c, numbers(next(branches.get(b), s))) < sum(c, numbers(s));
                }
            }
            if (falls) {
                return number;
            }
        }
        return -1;
    }

    long standing() {
        return sum(left());
    }

    String words(int guess) {
        index(guess, guesses.size());
        Guess g = guesses.get(guess);
        String i = g.kind < 6 ? "xyz".substring(g.i, g.i + 1) : "" + g.i;
        String j = g.kind < 6 ? "xyz".substring(g.j, g.j + 1) : "" + g.j;
        String[] words = {i + " <= " + g.c, i + " >= " + g.c, i + " - " + j + " <= " + g.c,
            i + " + " + j + " <= " + g.c, i + " = " + rest(g.c, 2) + " by 2",
            i + " + " + j + " = " + rest(g.c, 3) + " by 3", i + " -> " + j};
        return words[g.kind] + (g.standing ? "" : " (struck)");
    }

    double part() {
        return guesses.isEmpty() ? 1.0 : left().size() * 1.0 / guesses.size();
    }

    int wouldKeep(int without) {
        index(without, guesses.size());
        Set<Integer> others = left();
        others.remove(without);
        return kept(others).size();
    }

    int lies(int guess) {
        index(guess, guesses.size());
        int[] soon = soon();
        int lies = 0;
        for (int s = 0; s < states(); s++) {
            lies += soon[s] >= 0 && !so(guess, s) ? 1 : 0;
        }
        return lies;
    }

    int wouldEnd(int seed, int turns) {
        argument(seed >= 0 && seed <= 198 && turns >= 1 && turns <= 60);
        List<Integer> path = path(seed, turns);
        return path.get(path.size() - 1);
    }

    boolean isSound() {
        int[] soon = soon();
        boolean sound = soon[start] == 0;
        for (int s = 0; s < states() && sifted; s++) {
            sound &= soon[s] == -1 || allSo(left(), s);
        }
        for (int g = 0; g < guesses.size(); g++) {
            sound &= goal(g, 0) == 0 || goal(g, 1) == 1;
            sound &= guesses.get(g).by < 0 || guesses.get(g).by > 1 || !so(g, guesses.get(g).state);
        }
        return sound;
    }

    long digest() {
        List<Long> v = new ArrayList<>();
        for (int what = 0; what <= 15; what++) {
            v.add((long) loop(what));
        }
        for (int g = 0; g < guesses.size(); g++) {
            for (int what = 0; what <= 9; what++) {
                v.add((long) ofGuess(g, what));
            }
            for (int what = 0; what <= 4; what++) {
                v.add((long) goal(g, what));
            }
            v.add((long) lies(g));
        }
        for (int b = 0; b < branches.size(); b++) {
            v.add((long) step(b, start));
        }
        v.addAll(List.of(standing(), (long) wouldEnd(1, 1), (long) wouldEnd(9, 9), (long) (64 * part()),
            isSound() ? 1L : 0L));
        return v.stream().reduce(6029L, (d, next) -> d * 31 + next);
    }
}
