/**
 * A court of axioms weighed: formulas typed on a page, principles with rules and models, problems
 * that reduce to one another, and games. The document numbers what each call promises; README.md
 * says how to use it.
 *
 * <p>All rows are made by the constructor and used again, so no later call makes an object other
 * than the exception that it throws.
 */
public final class ReversalCourt {
    /** There is none. */
    public static final int NONE = -1;

    /** What is known of two principles. */
    public static final int DOES_NOT = -1, OPEN = 0, IMPLIES = 1;

    private static final int LARGEST_WORLD = 5;
    private static final int MOST_QUANTIFIERS_TRIED = 6;

    private final Page page;
    private final Zoo zoo;
    private final Problems problems;

    public ReversalCourt() {
        page = new Page();
        zoo = new Zoo();
        problems = new Problems();
    }

    // ---- formulas

    public int letter(char letter) throws IllegalArgumentException, IllegalStateException {
        if (!Page.isLetter(letter)) {
            throw new IllegalArgumentException("a page has no such letter");
        }
        if (page.isFull()) {
            throw new IllegalStateException("the page is full");
        }
        return page.type(letter);
    }

    public int blank() {
        return page.wipe();
    }

    public int fault() {
        return page.faultPlace();
    }

    public int sigma() {
        return page.isFormula() ? page.formula.wholeSigma() : NONE;
    }

    public int pi() {
        return page.isFormula() ? page.formula.wholePi() : NONE;
    }

    public int free() {
        return page.isFormula() ? page.formula.wholeFree() : NONE;
    }

    public boolean isSo(int size, int x, int y, int z)
            throws IllegalArgumentException, IllegalStateException {
        if (!isBetween(1, size, LARGEST_WORLD) || !isBelow(x, size) || !isBelow(y, size)
                || !isBelow(z, size)) {
            throw new IllegalArgumentException("a number is out of range");
        }
        if (!page.isFormula() || page.formula.quantifiers > MOST_QUANTIFIERS_TRIED) {
            throw new IllegalStateException("the page is no formula that can be tried");
        }
        return page.formula.isTrue(size, x, y, z);
    }

    // ---- principles, rules, models

    public int principle() throws IllegalStateException {
        if (!page.isFormula() || page.formula.wholeFree() != 0 || zoo.hasAllPrinciples()) {
            throw new IllegalStateException("the page cannot be made a principle");
        }
        int number = zoo.addPrinciple(page.formula.wholeSigma(), page.formula.wholePi());
        page.wipe();
        return number;
    }

    public int rule(int premises, int conclusion)
            throws IndexOutOfBoundsException, IllegalArgumentException, IllegalStateException {
        if (!zoo.hasPrinciple(conclusion)) {
            throw new IndexOutOfBoundsException("there is no such principle");
        }
        if (!zoo.isSet(premises) || Zoo.contains(premises, conclusion)) {
            throw new IllegalArgumentException("the premises are out of range");
        }
        if (zoo.hasAllRules() || zoo.isBrokenByModel(premises, conclusion)) {
            throw new IllegalStateException("the rule cannot be told");
        }
        return zoo.addRule(premises, conclusion);
    }

    public int model(int set) throws IllegalArgumentException, IllegalStateException {
        if (!zoo.isSet(set)) {
            throw new IllegalArgumentException("the set is out of range");
        }
        if (zoo.hasAllModels() || zoo.breaksRule(set)) {
            throw new IllegalStateException("the model cannot be told");
        }
        return zoo.addModel(set);
    }

    public int proves(int set) throws IllegalArgumentException {
        if (!zoo.isSet(set)) {
            throw new IllegalArgumentException("the set is out of range");
        }
        return zoo.closure(set);
    }

    public int proof(int set, int goal, int at)
            throws IndexOutOfBoundsException, IllegalArgumentException {
        if (!zoo.hasPrinciple(goal) || at < 0) {
            throw new IndexOutOfBoundsException("there is no such principle or step");
        }
        if (!zoo.isSet(set)) {
            throw new IllegalArgumentException("the set is out of range");
        }
        return zoo.proofStep(set, goal, at);
    }

    public int known(int first, int second)
            throws IndexOutOfBoundsException, IllegalArgumentException {
        if (!zoo.hasPrinciple(first) || !zoo.hasPrinciple(second)) {
            throw new IndexOutOfBoundsException("there is no such principle");
        }
        if (first == second) {
            throw new IllegalArgumentException("both principles are the same");
        }
        return zoo.verdict(first, second);
    }

    public int open() {
        return zoo.openPairs();
    }

    public int least(int goal, int pool)
            throws IndexOutOfBoundsException, IllegalArgumentException {
        if (!zoo.hasPrinciple(goal)) {
            throw new IndexOutOfBoundsException("there is no such principle");
        }
        if (!zoo.isSet(pool)) {
            throw new IllegalArgumentException("the pool is out of range");
        }
        return zoo.leastBySize(goal, pool);
    }

    public int leastAnew(int goal, int pool)
            throws IndexOutOfBoundsException, IllegalArgumentException {
        if (!zoo.hasPrinciple(goal)) {
            throw new IndexOutOfBoundsException("there is no such principle");
        }
        if (!zoo.isSet(pool)) {
            throw new IllegalArgumentException("the pool is out of range");
        }
        return zoo.leastOfAll(goal, pool);
    }

    public int ofPrinciple(int principle, int what)
            throws IndexOutOfBoundsException, IllegalArgumentException {
        if (!zoo.hasPrinciple(principle)) {
            throw new IndexOutOfBoundsException("there is no such principle");
        }
        if (!isBelow(what, 4)) {
            throw new IllegalArgumentException("there is no such thing to tell");
        }
        return zoo.tell(principle, what);
    }

    // ---- problems

    public int problem(int instances, int answers, int solves)
            throws IllegalArgumentException, IllegalStateException {
        if (!Problems.areInRange(instances, answers, solves)) {
            throw new IllegalArgumentException("there can be no such problem");
        }
        if (problems.hasAll()) {
            throw new IllegalStateException("there are as many problems as can be");
        }
        return problems.add(instances, answers, solves);
    }

    public int product(int first, int second)
            throws IndexOutOfBoundsException, IllegalStateException {
        if (!problems.hasBoth(first, second)) {
            throw new IndexOutOfBoundsException("there is no such problem");
        }
        if (problems.hasAll() || !problems.canMultiply(first, second)) {
            throw new IllegalStateException("the product cannot be added");
        }
        return problems.addProduct(first, second);
    }

    public int reduces(int problem, int other) throws IndexOutOfBoundsException {
        if (!problems.hasBoth(problem, other)) {
            throw new IndexOutOfBoundsException("there is no such problem");
        }
        return problems.lowestCode(problem, other, false);
    }

    public int reducesAnew(int problem, int other) throws IndexOutOfBoundsException {
        if (!problems.hasBoth(problem, other)) {
            throw new IndexOutOfBoundsException("there is no such problem");
        }
        return problems.lowestCode(problem, other, true);
    }

    public int forth(int problem, int other, int instance) throws IndexOutOfBoundsException {
        if (!problems.hasBoth(problem, other) || !problems.hasInstance(problem, instance)) {
            throw new IndexOutOfBoundsException("there is no such problem or instance");
        }
        return problems.forthOf(problem, other, instance);
    }

    public int ofProblem(int problem, int what)
            throws IndexOutOfBoundsException, IllegalArgumentException {
        if (!problems.hasNumber(problem)) {
            throw new IndexOutOfBoundsException("there is no such problem");
        }
        if (!isBelow(what, 3)) {
            throw new IllegalArgumentException("there is no such thing to tell");
        }
        return problems.tell(problem, what);
    }

    // ---- games

    public boolean has(int rounds, int set) throws IllegalArgumentException {
        if (!Game.isInRange(rounds, set)) {
            throw new IllegalArgumentException("there is no such game");
        }
        return Game.isWonBackwards(rounds, set);
    }

    public boolean hasAnew(int rounds, int set) throws IllegalArgumentException {
        if (!Game.isInRange(rounds, set)) {
            throw new IllegalArgumentException("there is no such game");
        }
        return Game.isWonBySomePlan(rounds, set);
    }

    private static boolean isBelow(int number, int bound) {
        return number >= 0 && number < bound;
    }

    private static boolean isBetween(int lowest, int number, int highest) {
        return number >= lowest && number <= highest;
    }

    /** The letters typed, each read into the formula as it comes. */
    private static final class Page {
        private static final int MOST_LETTERS = 40;
        private static final String LETTERS = "xyzAEae!()&|><=";

        // What the letter that comes next has to belong to.
        private static final int FORMULA = 0;
        private static final int RELATION = 1;
        private static final int RIGHT = 2;
        private static final int VARIABLE = 3;
        private static final int LIMIT = 4;
        private static final int OPERATOR = 5;
        private static final int CLOSE = 6;
        private static final int NOTHING = 7;

        private final Formula formula = new Formula();
        /** For each part of the formula the part around it. */
        private final int[] around = new int[MOST_LETTERS];
        private int length = 0;
        private int fault = NONE;
        private int due = FORMULA;
        /** The innermost part that is not whole yet. */
        private int current = NONE;

        static boolean isLetter(char letter) {
            return LETTERS.indexOf(letter) >= 0;
        }

        boolean isFull() {
            return length >= MOST_LETTERS;
        }

        int type(char letter) {
            if (fault == NONE) {
                if (!takes(letter)) {
                    fault = length;
                } else if (due == NOTHING) {
                    finish();
                }
            }
            length++;
            return length;
        }

        int wipe() {
            int was = length;
            length = 0;
            fault = NONE;
            due = FORMULA;
            current = NONE;
            formula.clear();
            return was;
        }

        int faultPlace() {
            return fault == NONE ? length : fault;
        }

        boolean isFormula() {
            return fault == NONE && due == NOTHING;
        }

        private boolean takes(char letter) {
            switch (due) {
                case FORMULA:
                    return takesStart(letter);
                case RELATION:
                    return takesKind(letter == '<' || letter == '=', letter, RIGHT);
                case RIGHT:
                    return takesLimit(letter, NOTHING);
                case VARIABLE:
                    return takesVariable(letter);
                case LIMIT:
                    return takesLimit(letter, FORMULA);
                case OPERATOR:
                    return takesKind(Formula.isOperator(letter), letter, FORMULA);
                case CLOSE:
                    return takesClose(letter);
                default:
                    return false;
            }
        }

        private boolean takesStart(char letter) {
            int next = dueBehindStart(letter);
            if (next == NOTHING) {
                return false;
            }
            int part = formula.add(letter);
            around[part] = current;
            current = part;
            if (isVariable(letter)) {
                formula.variables[part] = letter - 'x';
            }
            due = next;
            return true;
        }

        private static int dueBehindStart(char letter) {
            switch (letter) {
                case 'x':
                case 'y':
                case 'z':
                    return RELATION;
                case '!':
                case '(':
                    return FORMULA;
                case 'A':
                case 'E':
                case 'a':
                case 'e':
                    return VARIABLE;
                default:
                    return NOTHING;
            }
        }

        /** Only a relation or an operator tells what an atom or what stands in ( and ) is. */
        private boolean takesKind(boolean fits, char letter, int next) {
            if (fits) {
                formula.kinds[current] = letter;
                due = next;
            }
            return fits;
        }

        private boolean takesVariable(char letter) {
            if (!isVariable(letter)) {
                return false;
            }
            formula.variables[current] = letter - 'x';
            due = Formula.isBounded(formula.kinds[current]) ? LIMIT : FORMULA;
            return true;
        }

        private boolean takesLimit(char letter, int next) {
            if (!isVariable(letter)) {
                return false;
            }
            formula.limits[current] = letter - 'x';
            due = next;
            return true;
        }

        private boolean takesClose(char letter) {
            if (letter != ')') {
                return false;
            }
            due = NOTHING;
            return true;
        }

        /** With a part those around it are whole, too, up to one that waits for more letters. */
        private void finish() {
            int whole = current;
            for (int turn = 0; turn < MOST_LETTERS && due == NOTHING; turn++) {
                formula.weigh(whole);
                current = around[whole];
                if (current == NONE) {
                    return;
                }
                due = dueBehindPart(whole);
                whole = current;
            }
        }

        /** Puts a whole part into the current one; NOTHING if that is whole with it. */
        private int dueBehindPart(int whole) {
            if (Formula.isOperator(formula.kinds[current])) {
                formula.seconds[current] = whole;
                return CLOSE;
            }
            formula.firsts[current] = whole;
            return formula.kinds[current] == '(' ? OPERATOR : NOTHING;
        }

        private static boolean isVariable(char letter) {
            return letter >= 'x' && letter <= 'z';
        }
    }

    /**
     * The parts of a formula, the whole first, each ahead of those inside it. A part has as its
     * kind the letter that tells it: a relation, !, an operator or a quantifier.
     */
    private static final class Formula {
        /** Each part begins with a letter of its own. */
        private static final int MOST_PARTS = Page.MOST_LETTERS;
        /** As many as there are ways to say what x, y and z are in the largest world. */
        private static final int CELLS = LARGEST_WORLD * LARGEST_WORLD * LARGEST_WORLD;

        private final char[] kinds = new char[MOST_PARTS];
        /** Of an atom the left variable, of a quantifier its own: 0 for x, 1 for y, 2 for z. */
        private final int[] variables = new int[MOST_PARTS];
        /** Of an atom the right variable, of a and e the second one. */
        private final int[] limits = new int[MOST_PARTS];
        private final int[] firsts = new int[MOST_PARTS];
        private final int[] seconds = new int[MOST_PARTS];
        private final int[] sigmas = new int[MOST_PARTS];
        private final int[] pis = new int[MOST_PARTS];
        private final int[] frees = new int[MOST_PARTS];
        /** For each part, and each cell in it, whether the part is so there. */
        private final boolean[] truths = new boolean[MOST_PARTS * CELLS];
        private int count = 0;
        private int quantifiers = 0;

        void clear() {
            count = 0;
            quantifiers = 0;
        }

        int add(char kind) {
            int part = count;
            count++;
            kinds[part] = kind;
            if (isBounded(kind) || kind == 'A' || kind == 'E') {
                quantifiers++;
            }
            return part;
        }

        int wholeSigma() {
            return sigmas[0];
        }

        int wholePi() {
            return pis[0];
        }

        int wholeFree() {
            return frees[0];
        }

        static boolean isOperator(char kind) {
            return kind == '&' || kind == '|' || kind == '>';
        }

        static boolean isBounded(char kind) {
            return kind == 'a' || kind == 'e';
        }

        private static boolean isAtom(char kind) {
            return kind == '<' || kind == '=';
        }

        /** Finds the sigma, the pi and the free variables of a part whose own parts are weighed. */
        void weigh(int part) {
            char kind = kinds[part];
            if (isAtom(kind)) {
                setWeight(part, 0, 0, bit(variables[part]) | bit(limits[part]));
            } else if (isOperator(kind)) {
                weighOperator(part, firsts[part], seconds[part]);
            } else if (kind == '!') {
                int inner = firsts[part];
                setWeight(part, pis[inner], sigmas[inner], frees[inner]);
            } else {
                weighQuantifier(part, firsts[part]);
            }
        }

        private void weighOperator(int part, int first, int second) {
            boolean turned = kinds[part] == '>';
            int sigma = turned ? pis[first] : sigmas[first];
            int pi = turned ? sigmas[first] : pis[first];
            setWeight(part, Math.max(sigma, sigmas[second]), Math.max(pi, pis[second]),
                    frees[first] | frees[second]);
        }

        private void weighQuantifier(int part, int inner) {
            int others = frees[inner] & ~bit(variables[part]);
            int sigma = sigmas[inner];
            int pi = pis[inner];
            switch (kinds[part]) {
                case 'E':
                    sigma = Math.min(Math.max(sigma, 1), pi + 1);
                    setWeight(part, sigma, sigma + 1, others);
                    break;
                case 'A':
                    pi = Math.min(Math.max(pi, 1), sigma + 1);
                    setWeight(part, pi + 1, pi, others);
                    break;
                default:
                    setWeight(part, sigma, pi, others | bit(limits[part]));
            }
        }

        private void setWeight(int part, int sigma, int pi, int free) {
            sigmas[part] = sigma;
            pis[part] = pi;
            frees[part] = free;
        }

        private static int bit(int variable) {
            return 1 << variable;
        }

        /**
         * Tries each part in each cell, the innermost parts first, so that every quantifier finds
         * its numbers tried.
         */
        boolean isTrue(int size, int x, int y, int z) {
            for (int part = count - 1; part >= 0; part--) {
                for (int cell = 0; cell < CELLS; cell++) {
                    truths[part * CELLS + cell] = truth(part, cell, size);
                }
            }
            return truths[x * step(0) + y * step(1) + z * step(2)];
        }

        private boolean truth(int part, int cell, int size) {
            int left = number(cell, variables[part]);
            int right = number(cell, limits[part]);
            switch (kinds[part]) {
                case '<':
                    return left < right;
                case '=':
                    return left == right;
                case '!':
                    return !truths[firsts[part] * CELLS + cell];
                case 'A':
                    return !isSomewhere(part, cell, size, false);
                case 'E':
                    return isSomewhere(part, cell, size, true);
                case 'a':
                    return !isSomewhere(part, cell, right, false);
                case 'e':
                    return isSomewhere(part, cell, right, true);
                default:
                    return truthOfOperator(part, cell);
            }
        }

        private boolean truthOfOperator(int part, int cell) {
            boolean first = truths[firsts[part] * CELLS + cell];
            boolean second = truths[seconds[part] * CELLS + cell];
            switch (kinds[part]) {
                case '&':
                    return first && second;
                case '|':
                    return first || second;
                default:
                    return !first || second;
            }
        }

        /** Whether what a quantifier is told of is as wanted for a number below the bound. */
        private boolean isSomewhere(int part, int cell, int bound, boolean wanted) {
            int variable = variables[part];
            int step = step(variable);
            int place = firsts[part] * CELLS + cell - number(cell, variable) * step;
            for (int number = 0; number < bound; number++) {
                if (truths[place + number * step] == wanted) {
                    return true;
                }
            }
            return false;
        }

        /** What a variable is in a cell. */
        private static int number(int cell, int variable) {
            switch (variable) {
                case 0:
                    return cell % LARGEST_WORLD;
                case 1:
                    return cell / LARGEST_WORLD % LARGEST_WORLD;
                default:
                    return cell / (LARGEST_WORLD * LARGEST_WORLD);
            }
        }

        /** How far the cells are apart in which a variable differs by one. */
        private static int step(int variable) {
            switch (variable) {
                case 0:
                    return 1;
                case 1:
                    return LARGEST_WORLD;
                default:
                    return LARGEST_WORLD * LARGEST_WORLD;
            }
        }
    }

    /** Principles, with the rules and the models told of them. */
    private static final class Zoo {
        private static final int MOST_PRINCIPLES = 10;
        private static final int MOST_RULES = 30;
        private static final int MOST_MODELS = 10;

        private final int[] sigmas = new int[MOST_PRINCIPLES];
        private final int[] pis = new int[MOST_PRINCIPLES];
        private final int[] premises = new int[MOST_RULES];
        private final int[] conclusions = new int[MOST_RULES];
        private final int[] models = new int[MOST_MODELS];
        /** The rules of the proof that is asked for; each brings a principle that was not there. */
        private final int[] steps = new int[MOST_PRINCIPLES];
        private int principleCount = 0;
        private int ruleCount = 0;
        private int modelCount = 0;

        static boolean contains(int set, int principle) {
            return ((set >> principle) & 1) != 0;
        }

        private static boolean includes(int set, int part) {
            return (part & ~set) == 0;
        }

        boolean hasPrinciple(int number) {
            return isBelow(number, principleCount);
        }

        boolean isSet(int set) {
            return set >>> principleCount == 0;
        }

        boolean hasAllPrinciples() {
            return principleCount >= MOST_PRINCIPLES;
        }

        boolean hasAllRules() {
            return ruleCount >= MOST_RULES;
        }

        boolean hasAllModels() {
            return modelCount >= MOST_MODELS;
        }

        int addPrinciple(int sigma, int pi) {
            int number = principleCount;
            sigmas[number] = sigma;
            pis[number] = pi;
            principleCount++;
            return number;
        }

        int addRule(int premiseSet, int conclusion) {
            int number = ruleCount;
            premises[number] = premiseSet;
            conclusions[number] = conclusion;
            ruleCount++;
            return number;
        }

        int addModel(int set) {
            int number = modelCount;
            models[number] = set;
            modelCount++;
            return number;
        }

        private static boolean brings(int set, int premiseSet, int conclusion) {
            return includes(set, premiseSet) && !contains(set, conclusion);
        }

        boolean isBrokenByModel(int premiseSet, int conclusion) {
            for (int model = 0; model < modelCount; model++) {
                if (brings(models[model], premiseSet, conclusion)) {
                    return true;
                }
            }
            return false;
        }

        boolean breaksRule(int set) {
            return nextRule(set) != NONE;
        }

        /** The lowest rule by which a set gets a principle that it has not. */
        private int nextRule(int set) {
            for (int rule = 0; rule < ruleCount; rule++) {
                if (brings(set, premises[rule], conclusions[rule])) {
                    return rule;
                }
            }
            return NONE;
        }

        int closure(int set) {
            int there = set;
            for (int turn = 0; turn < MOST_PRINCIPLES; turn++) {
                int rule = nextRule(there);
                if (rule == NONE) {
                    return there;
                }
                there |= 1 << conclusions[rule];
            }
            return there;
        }

        int proofStep(int set, int goal, int at) {
            int taken = takeSteps(set, goal);
            return taken == NONE ? NONE : neededStep(neededSteps(goal, taken), at);
        }

        /** Takes the lowest rule again and again until the goal is there; returns how often. */
        private int takeSteps(int set, int goal) {
            int there = set;
            int taken = 0;
            while (taken < MOST_PRINCIPLES && !contains(there, goal)) {
                int rule = nextRule(there);
                if (rule == NONE) {
                    return NONE;
                }
                steps[taken] = rule;
                there |= 1 << conclusions[rule];
                taken++;
            }
            return taken;
        }

        /** The steps, as bits, that the goal needs; each comes behind those that it needs. */
        private int neededSteps(int goal, int taken) {
            int wanted = 1 << goal;
            int needed = 0;
            for (int step = taken - 1; step >= 0; step--) {
                int rule = steps[step];
                if (contains(wanted, conclusions[rule])) {
                    wanted |= premises[rule];
                    needed |= 1 << step;
                }
            }
            return needed;
        }

        private int neededStep(int needed, int at) {
            int ahead = 0;
            for (int step = 0; step < MOST_PRINCIPLES; step++) {
                if (contains(needed, step)) {
                    if (ahead == at) {
                        return steps[step];
                    }
                    ahead++;
                }
            }
            return NONE;
        }

        int verdict(int first, int second) {
            if (contains(closure(1 << first), second)) {
                return IMPLIES;
            }
            for (int model = 0; model < modelCount; model++) {
                if (contains(models[model], first) && !contains(models[model], second)) {
                    return DOES_NOT;
                }
            }
            return OPEN;
        }

        int openPairs() {
            int pairs = 0;
            for (int first = 0; first < principleCount; first++) {
                for (int second = 0; second < principleCount; second++) {
                    if (first != second && verdict(first, second) == OPEN) {
                        pairs++;
                    }
                }
            }
            return pairs;
        }

        /** Goes from smaller sets to larger ones, the lowest first, and stops at one that does. */
        int leastBySize(int goal, int pool) {
            if (!contains(closure(pool), goal)) {
                return NONE;
            }
            for (int size = 0; size <= MOST_PRINCIPLES; size++) {
                for (int set = 0; set <= pool; set++) {
                    if (Integer.bitCount(set) == size && includes(pool, set)
                            && contains(closure(set), goal)) {
                        return set;
                    }
                }
            }
            return NONE;
        }

        /** Tries all sets of the pool; of as many principles the earlier one is lower. */
        int leastOfAll(int goal, int pool) {
            int best = NONE;
            int fewest = MOST_PRINCIPLES + 1;
            for (int set = 0; set <= pool; set++) {
                int size = Integer.bitCount(set);
                if (includes(pool, set) && contains(closure(set), goal) && size < fewest) {
                    best = set;
                    fewest = size;
                }
            }
            return best;
        }

        int tell(int principle, int what) {
            switch (what) {
                case 0:
                    return sigmas[principle];
                case 1:
                    return pis[principle];
                case 2:
                    return rulesFor(principle);
                default:
                    return modelsWith(principle);
            }
        }

        private int rulesFor(int principle) {
            int found = 0;
            for (int rule = 0; rule < ruleCount; rule++) {
                if (conclusions[rule] == principle) {
                    found++;
                }
            }
            return found;
        }

        private int modelsWith(int principle) {
            int found = 0;
            for (int model = 0; model < modelCount; model++) {
                if (contains(models[model], principle)) {
                    found++;
                }
            }
            return found;
        }
    }

    /** Problems, with what solves each as bits: four for the answers to each instance. */
    private static final class Problems {
        private static final int MOST_PROBLEMS = 6;
        private static final int MOST = 4;

        private final int[] instances = new int[MOST_PROBLEMS];
        private final int[] answers = new int[MOST_PROBLEMS];
        private final int[] solutions = new int[MOST_PROBLEMS];
        private final int[] backMap = new int[MOST];
        private final int[] forthMap = new int[MOST];
        /** For each instance of the other problem what BACK gives for what solves it, as bits. */
        private final int[] given = new int[MOST];
        private int count = 0;

        static boolean areInRange(int instances, int answers, int solves) {
            if (!isBetween(1, instances, MOST) || !isBetween(1, answers, MOST)) {
                return false;
            }
            for (int instance = 0; instance < instances; instance++) {
                int solving = solving(solves, instance);
                if (solving == 0 || solving >>> answers != 0) {
                    return false;
                }
            }
            return solves >>> (MOST * instances) == 0;
        }

        /** The answers, as bits, that solve an instance. */
        private static int solving(int solves, int instance) {
            return (solves >>> (MOST * instance)) & 15;
        }

        boolean hasNumber(int problem) {
            return isBelow(problem, count);
        }

        boolean hasBoth(int first, int second) {
            return hasNumber(first) && hasNumber(second);
        }

        boolean hasInstance(int problem, int instance) {
            return isBelow(instance, instances[problem]);
        }

        boolean hasAll() {
            return count >= MOST_PROBLEMS;
        }

        int add(int instanceCount, int answerCount, int solves) {
            int number = count;
            instances[number] = instanceCount;
            answers[number] = answerCount;
            solutions[number] = solves;
            count++;
            return number;
        }

        boolean canMultiply(int first, int second) {
            return instances[first] * instances[second] <= MOST
                    && answers[first] * answers[second] <= MOST;
        }

        int addProduct(int first, int second) {
            int solves = 0;
            int instance = 0;
            for (int one = 0; one < instances[first]; one++) {
                for (int two = 0; two < instances[second]; two++) {
                    int solving = solvingBoth(solving(solutions[first], one),
                            solving(solutions[second], two), answers[second]);
                    solves |= solving << (MOST * instance);
                    instance++;
                }
            }
            return add(instance, answers[first] * answers[second], solves);
        }

        private static int solvingBoth(int first, int second, int secondAnswers) {
            int both = 0;
            for (int answer = 0; answer < MOST; answer++) {
                if (((first >> answer) & 1) != 0) {
                    both |= second << (answer * secondAnswers);
                }
            }
            return both;
        }

        /** Leaves in the given row what the BACK map found gives, if there is one. */
        int lowestCode(int problem, int other, boolean tryingAll) {
            clear(backMap);
            int codes = power(answers[problem], answers[other]);
            for (int code = 0; code < codes; code++) {
                give(other);
                if (tryingAll ? someForthDoes(problem, other) : hasForth(problem, other)) {
                    return code;
                }
                advance(backMap, answers[other], answers[problem]);
            }
            return NONE;
        }

        int forthOf(int problem, int other, int instance) {
            if (lowestCode(problem, other, false) == NONE) {
                return NONE;
            }
            return lowestForth(problem, other, instance);
        }

        private boolean hasForth(int problem, int other) {
            for (int instance = 0; instance < instances[problem]; instance++) {
                if (lowestForth(problem, other, instance) == NONE) {
                    return false;
                }
            }
            return true;
        }

        private int lowestForth(int problem, int other, int instance) {
            for (int to = 0; to < instances[other]; to++) {
                if (isSolvedBack(problem, instance, to)) {
                    return to;
                }
            }
            return NONE;
        }

        private boolean someForthDoes(int problem, int other) {
            clear(forthMap);
            int maps = power(instances[other], instances[problem]);
            for (int map = 0; map < maps; map++) {
                if (forthDoes(problem)) {
                    return true;
                }
                advance(forthMap, instances[problem], instances[other]);
            }
            return false;
        }

        private boolean forthDoes(int problem) {
            for (int instance = 0; instance < instances[problem]; instance++) {
                if (!isSolvedBack(problem, instance, forthMap[instance])) {
                    return false;
                }
            }
            return true;
        }

        /** Whether all that BACK gives for what solves the other instance solves this one. */
        private boolean isSolvedBack(int problem, int instance, int to) {
            return (given[to] & ~solving(solutions[problem], instance)) == 0;
        }

        private void give(int other) {
            for (int instance = 0; instance < instances[other]; instance++) {
                int solving = solving(solutions[other], instance);
                int back = 0;
                for (int answer = 0; answer < answers[other]; answer++) {
                    if (((solving >> answer) & 1) != 0) {
                        back |= 1 << backMap[answer];
                    }
                }
                given[instance] = back;
            }
        }

        private static void clear(int[] map) {
            for (int place = 0; place < MOST; place++) {
                map[place] = 0;
            }
        }

        /** Goes on to the map with the next code: counts, place 0 being the lowest. */
        private static void advance(int[] map, int places, int base) {
            for (int place = 0; place < places; place++) {
                map[place]++;
                if (map[place] < base) {
                    return;
                }
                map[place] = 0;
            }
        }

        private static int power(int base, int exponent) {
            int power = 1;
            for (int factor = 0; factor < exponent; factor++) {
                power *= base;
            }
            return power;
        }

        int tell(int problem, int what) {
            switch (what) {
                case 0:
                    return instances[problem];
                case 1:
                    return answers[problem];
                default:
                    return solutions[problem];
            }
        }
    }

    /** Games of one to four rounds, FIRST saying what is said in the rounds 0 and 2. */
    private static final class Game {
        private static final int MOST_ROUNDS = 4;
        private static final int PLANS = 8;
        private static final int REPLIES = 4;

        static boolean isInRange(int rounds, int set) {
            return isBetween(1, rounds, MOST_ROUNDS) && set >>> (1 << rounds) == 0;
        }

        /** From the last round back: the numbers from which FIRST wins, as bits. */
        static boolean isWonBackwards(int rounds, int set) {
            int won = set;
            for (int round = rounds - 1; round >= 0; round--) {
                won = wonAhead(round, won);
            }
            return won == 1;
        }

        private static int wonAhead(int round, int won) {
            int ahead = 0;
            for (int number = 0; number < 1 << round; number++) {
                int wonOfBoth = (won >> (2 * number)) & 3;
                boolean isWon = isOfFirst(round) ? wonOfBoth != 0 : wonOfBoth == 3;
                if (isWon) {
                    ahead |= 1 << number;
                }
            }
            return ahead;
        }

        private static boolean isOfFirst(int round) {
            return (round & 1) == 0;
        }

        static boolean isWonBySomePlan(int rounds, int set) {
            for (int plan = 0; plan < PLANS; plan++) {
                if (winsAlways(plan, rounds, set)) {
                    return true;
                }
            }
            return false;
        }

        private static boolean winsAlways(int plan, int rounds, int set) {
            for (int replies = 0; replies < REPLIES; replies++) {
                if (((set >> outcome(plan, replies, rounds)) & 1) == 0) {
                    return false;
                }
            }
            return true;
        }

        private static int outcome(int plan, int replies, int rounds) {
            int number = 0;
            for (int round = 0; round < rounds; round++) {
                number = 2 * number + said(round, plan, replies);
            }
            return number;
        }

        /**
         * A plan has a bit for round 0, and for round 2 one for each of what SECOND can have said
         * in round 1; the replies of SECOND have a bit for each of its rounds.
         */
        private static int said(int round, int plan, int replies) {
            int reply = replies & 1;
            switch (round) {
                case 0:
                    return plan & 1;
                case 1:
                    return reply;
                case 2:
                    return (plan >> (1 + reply)) & 1;
                default:
                    return replies >> 1;
            }
        }
    }
}
