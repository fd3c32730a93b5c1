import java.util.ArrayList;
import java.util.List;
import java.util.Set;
import java.util.TreeSet;

/**
 * The document read a second time, as plainly as can be and without a care for speed: trees,
 * lists and recursion where the program has rows. It shares no code with the program, so that a
 * slip in one of both shows as an unlike answer.
 */
final class Reference {
    private static final int NONE = -1;

    private String page = "";
    private final List<int[]> principles = new ArrayList<>();
    private final List<Rule> rules = new ArrayList<>();
    private final List<Set<Integer>> models = new ArrayList<>();
    private final List<boolean[][]> problems = new ArrayList<>();

    // ---- formulas

    /** A formula: its kind, its variables as places in "xyz", and its parts. */
    private record Tree(char kind, int variable, int limit, Tree first, Tree second) {
    }

    private record Rule(Set<Integer> premises, int conclusion) {
    }

    /** The letters ran out ahead of the end of the formula. */
    private static final class RanOut extends Exception {
        private static final long serialVersionUID = 1L;
    }

    /** The letter at a place can't stand there. */
    private static final class Fault extends Exception {
        private static final long serialVersionUID = 1L;
        private final int at;

        Fault(int at) {
            this.at = at;
        }
    }

    private static final class Reader {
        private final String text;
        private int at = 0;

        Reader(String text) {
            this.text = text;
        }

        private char next(String allowed) throws RanOut, Fault {
            if (at == text.length()) {
                throw new RanOut();
            }
            char letter = text.charAt(at);
            if (allowed.indexOf(letter) < 0) {
                throw new Fault(at);
            }
            at++;
            return letter;
        }

        private int variable() throws RanOut, Fault {
            return "xyz".indexOf(next("xyz"));
        }

        Tree formula() throws RanOut, Fault {
            char start = next("!(AEaexyz");
            if (start == '!') {
                return new Tree('!', NONE, NONE, formula(), null);
            }
            if (start == '(') {
                Tree first = formula();
                char operator = next("&|>");
                Tree second = formula();
                next(")");
                return new Tree(operator, NONE, NONE, first, second);
            }
            if (start == 'A' || start == 'E') {
                int variable = variable();
                return new Tree(start, variable, NONE, formula(), null);
            }
            if (start == 'a' || start == 'e') {
                int variable = variable();
                int limit = variable();
                return new Tree(start, variable, limit, formula(), null);
            }
            int left = "xyz".indexOf(start);
            char relation = next("<=");
            return new Tree(relation, left, variable(), null, null);
        }
    }

    private Tree tree() {
        Reader reader = new Reader(page);
        try {
            Tree tree = reader.formula();
            return reader.at == page.length() ? tree : null;
        } catch (RanOut | Fault none) {
            return null;
        }
    }

    private static int[] sigmaAndPi(Tree tree) {
        int[] first = tree.first == null ? new int[2] : sigmaAndPi(tree.first);
        switch (tree.kind) {
            case '!':
                return new int[] {first[1], first[0]};
            case '&':
            case '|':
                return greater(first, sigmaAndPi(tree.second));
            case '>':
                return greater(new int[] {first[1], first[0]}, sigmaAndPi(tree.second));
            case 'E': {
                int sigma = Math.min(first[0] < 1 ? 1 : first[0], first[1] + 1);
                return new int[] {sigma, sigma + 1};
            }
            case 'A': {
                int pi = Math.min(first[1] < 1 ? 1 : first[1], first[0] + 1);
                return new int[] {pi + 1, pi};
            }
            default:
                return first;
        }
    }

    private static int[] greater(int[] one, int[] other) {
        return new int[] {Math.max(one[0], other[0]), Math.max(one[1], other[1])};
    }

    private static Set<Integer> freeOf(Tree tree) {
        Set<Integer> free = new TreeSet<>();
        if (tree.first == null) {
            free.add(tree.variable);
            free.add(tree.limit);
            return free;
        }
        free.addAll(freeOf(tree.first));
        if (tree.second != null) {
            free.addAll(freeOf(tree.second));
        }
        if ("AEae".indexOf(tree.kind) >= 0) {
            free.remove(tree.variable);
        }
        if ("ae".indexOf(tree.kind) >= 0) {
            free.add(tree.limit);
        }
        return free;
    }

    private static boolean holds(Tree tree, int size, int[] world) {
        switch (tree.kind) {
            case '<':
                return world[tree.variable] < world[tree.limit];
            case '=':
                return world[tree.variable] == world[tree.limit];
            case '!':
                return !holds(tree.first, size, world);
            case '&':
                return holds(tree.first, size, world) && holds(tree.second, size, world);
            case '|':
                return holds(tree.first, size, world) || holds(tree.second, size, world);
            case '>':
                return !holds(tree.first, size, world) || holds(tree.second, size, world);
            default:
                return holdsFor(tree, size, world);
        }
    }

    private static boolean holdsFor(Tree tree, int size, int[] world) {
        int bound = tree.limit == NONE ? size : world[tree.limit];
        int so = 0;
        for (int number = 0; number < bound; number++) {
            int[] changed = world.clone();
            changed[tree.variable] = number;
            if (holds(tree.first, size, changed)) {
                so++;
            }
        }
        return tree.kind == 'A' || tree.kind == 'a' ? so == bound : so > 0;
    }

    int letter(char letter) {
        argument("xyzAEae!()&|><=".indexOf(letter) >= 0);
        state(page.length() < 40);
        page += letter;
        return page.length();
    }

    int blank() {
        int length = page.length();
        page = "";
        return length;
    }

    int fault() {
        Reader reader = new Reader(page);
        try {
            reader.formula();
            return reader.at;
        } catch (RanOut none) {
            return page.length();
        } catch (Fault fault) {
            return fault.at;
        }
    }

    int sigma() {
        return tree() == null ? NONE : sigmaAndPi(tree())[0];
    }

    int pi() {
        return tree() == null ? NONE : sigmaAndPi(tree())[1];
    }

    int free() {
        return tree() == null ? NONE : bits(freeOf(tree()));
    }

    boolean isSo(int size, int x, int y, int z) {
        argument(size >= 1 && size <= 5);
        for (int number : new int[] {x, y, z}) {
            argument(number >= 0 && number < size);
        }
        state(tree() != null && page.replaceAll("[^AEae]", "").length() <= 6);
        return holds(tree(), size, new int[] {x, y, z});
    }

    // ---- principles, rules, models

    private static int bits(Set<Integer> set) {
        int bits = 0;
        for (int one : set) {
            bits += 1 << one;
        }
        return bits;
    }

    private Set<Integer> set(int bits) {
        argument(bits >= 0 && bits < Math.pow(2, principles.size()));
        Set<Integer> set = new TreeSet<>();
        for (int one = 0; one < principles.size(); one++) {
            if (bits / (1 << one) % 2 == 1) {
                set.add(one);
            }
        }
        return set;
    }

    private void isPrinciple(int number) {
        bounds(number >= 0 && number < principles.size());
    }

    private static boolean breaks(Set<Integer> model, Rule rule) {
        return model.containsAll(rule.premises) && !model.contains(rule.conclusion);
    }

    private Set<Integer> provenBy(Set<Integer> set) {
        Set<Integer> proven = new TreeSet<>(set);
        boolean more = true;
        while (more) {
            more = false;
            for (Rule rule : rules) {
                more |= proven.containsAll(rule.premises) && proven.add(rule.conclusion);
            }
        }
        return proven;
    }

    int principle() {
        state(tree() != null && freeOf(tree()).isEmpty() && principles.size() < 10);
        principles.add(sigmaAndPi(tree()));
        page = "";
        return principles.size() - 1;
    }

    int rule(int premises, int conclusion) {
        isPrinciple(conclusion);
        Rule rule = new Rule(set(premises), conclusion);
        argument(!rule.premises.contains(conclusion));
        state(rules.size() < 30 && models.stream().noneMatch(model -> breaks(model, rule)));
        rules.add(rule);
        return rules.size() - 1;
    }

    int model(int bits) {
        Set<Integer> model = set(bits);
        state(models.size() < 10 && rules.stream().noneMatch(rule -> breaks(model, rule)));
        models.add(model);
        return models.size() - 1;
    }

    int proves(int set) {
        return bits(provenBy(set(set)));
    }

    int proof(int set, int goal, int at) {
        isPrinciple(goal);
        bounds(at >= 0);
        Set<Integer> start = set(set);
        if (!provenBy(start).contains(goal)) {
            return NONE;
        }
        List<Integer> steps = steps(start, goal);
        Set<Integer> needed = new TreeSet<>();
        need(goal, steps, needed);
        steps.removeIf(rule -> !needed.contains(rule));
        return at < steps.size() ? steps.get(at) : NONE;
    }

    private List<Integer> steps(Set<Integer> start, int goal) {
        Set<Integer> there = new TreeSet<>(start);
        List<Integer> steps = new ArrayList<>();
        while (!there.contains(goal)) {
            int lowest = 0;
            while (!breaks(there, rules.get(lowest))) {
                lowest++;
            }
            steps.add(lowest);
            there.add(rules.get(lowest).conclusion);
        }
        return steps;
    }

    private void need(int principle, List<Integer> steps, Set<Integer> needed) {
        for (int step : steps) {
            if (rules.get(step).conclusion == principle) {
                needed.add(step);
                for (int premise : rules.get(step).premises) {
                    need(premise, steps, needed);
                }
            }
        }
    }

    int known(int first, int second) {
        isPrinciple(first);
        isPrinciple(second);
        argument(first != second);
        if (provenBy(Set.of(first)).contains(second)) {
            return 1;
        }
        return models.stream().anyMatch(model -> model.contains(first) && !model.contains(second))
                ? -1 : 0;
    }

    int open() {
        int open = 0;
        for (int first = 0; first < principles.size(); first++) {
            for (int second = 0; second < principles.size(); second++) {
                open += first != second && known(first, second) == 0 ? 1 : 0;
            }
        }
        return open;
    }

    int least(int goal, int pool) {
        isPrinciple(goal);
        Set<Integer> all = set(pool);
        Set<Integer> best = null;
        for (int bits = 0; bits < 1 << principles.size(); bits++) {
            Set<Integer> some = set(bits);
            if (all.containsAll(some) && provenBy(some).contains(goal)
                    && (best == null || some.size() < best.size())) {
                best = some;
            }
        }
        return best == null ? NONE : bits(best);
    }

    int leastAnew(int goal, int pool) {
        return least(goal, pool);
    }

    int ofPrinciple(int principle, int what) {
        isPrinciple(principle);
        argument(what >= 0 && what < 4);
        if (what < 2) {
            return principles.get(principle)[what];
        }
        return what == 2
                ? (int) rules.stream().filter(rule -> rule.conclusion == principle).count()
                : (int) models.stream().filter(model -> model.contains(principle)).count();
    }

    // ---- problems

    private boolean[][] problemAt(int number) {
        bounds(number >= 0 && number < problems.size());
        return problems.get(number);
    }

    int problem(int instances, int answers, int solves) {
        argument(instances >= 1 && instances <= 4 && answers >= 1 && answers <= 4);
        boolean[][] problem = new boolean[instances][answers];
        long rest = solves & 0xffffffffL;
        for (int bit = 0; bit < 32; bit++) {
            if ((rest >> bit & 1) == 1L) {
                argument(bit / 4 < instances && bit % 4 < answers);
                problem[bit / 4][bit % 4] = true;
            }
        }
        for (boolean[] row : problem) {
            boolean some = false;
            for (boolean solved : row) {
                some |= solved;
            }
            argument(some);
        }
        state(problems.size() < 6);
        problems.add(problem);
        return problems.size() - 1;
    }

    int product(int first, int second) {
        boolean[][] one = problemAt(first);
        boolean[][] two = problemAt(second);
        int answers = one[0].length * two[0].length;
        state(problems.size() < 6 && one.length * two.length <= 4 && answers <= 4);
        boolean[][] product = new boolean[one.length * two.length][answers];
        for (int instance = 0; instance < product.length; instance++) {
            for (int answer = 0; answer < answers; answer++) {
                product[instance][answer] =
                        one[instance / two.length][answer / two[0].length]
                        && two[instance % two.length][answer % two[0].length];
            }
        }
        problems.add(product);
        return problems.size() - 1;
    }

    /** What the map with a code gives, each place being a digit of the code. */
    private static int[] map(int code, int places, int base) {
        int[] map = new int[places];
        int rest = code;
        for (int place = 0; place < places; place++) {
            map[place] = rest % base;
            rest /= base;
        }
        return map;
    }

    private static boolean reduce(boolean[] to, boolean[] from, int[] back) {
        for (int answer = 0; answer < from.length; answer++) {
            if (from[answer] && !to[back[answer]]) {
                return false;
            }
        }
        return true;
    }

    private static int[] forthFor(boolean[][] one, boolean[][] other, int[] back) {
        int[] forth = new int[one.length];
        for (int instance = 0; instance < one.length; instance++) {
            while (forth[instance] < other.length
                    && !reduce(one[instance], other[forth[instance]], back)) {
                forth[instance]++;
            }
            if (forth[instance] == other.length) {
                return null;
            }
        }
        return forth;
    }

    int reduces(int problem, int other) {
        boolean[][] one = problemAt(problem);
        boolean[][] two = problemAt(other);
        for (int code = 0; code < Math.pow(one[0].length, two[0].length); code++) {
            if (forthFor(one, two, map(code, two[0].length, one[0].length)) != null) {
                return code;
            }
        }
        return NONE;
    }

    int reducesAnew(int problem, int other) {
        return reduces(problem, other);
    }

    int forth(int problem, int other, int instance) {
        boolean[][] one = problemAt(problem);
        boolean[][] two = problemAt(other);
        bounds(instance >= 0 && instance < one.length);
        int code = reduces(problem, other);
        return code == NONE ? NONE
                : forthFor(one, two, map(code, two[0].length, one[0].length))[instance];
    }

    int ofProblem(int problem, int what) {
        boolean[][] told = problemAt(problem);
        argument(what >= 0 && what < 3);
        if (what < 2) {
            return what == 0 ? told.length : told[0].length;
        }
        int solves = 0;
        for (int instance = 0; instance < told.length; instance++) {
            for (int answer = 0; answer < told[0].length; answer++) {
                solves += told[instance][answer] ? 1 << 4 * instance + answer : 0;
            }
        }
        return solves;
    }

    // ---- games

    boolean has(int rounds, int set) {
        argument(rounds >= 1 && rounds <= 4);
        argument(set >= 0 && set < Math.pow(2, Math.pow(2, rounds)));
        return wins(rounds, set, 0, 0);
    }

    boolean hasAnew(int rounds, int set) {
        return has(rounds, set);
    }

    /** Whether FIRST wins from a round on, a number being there. */
    static boolean wins(int rounds, int set, int round, int number) {
        if (round == rounds) {
            return set / (1 << number) % 2 == 1;
        }
        boolean zero = wins(rounds, set, round + 1, 2 * number);
        boolean one = wins(rounds, set, round + 1, 2 * number + 1);
        return round % 2 == 0 ? zero || one : zero && one;
    }

    // ---- exceptions

    private static void bounds(boolean fine) {
        if (!fine) {
            throw new IndexOutOfBoundsException();
        }
    }

    private static void argument(boolean fine) {
        if (!fine) {
            throw new IllegalArgumentException();
        }
    }

    private static void state(boolean fine) {
        if (!fine) {
            throw new IllegalStateException();
        }
    }
}
