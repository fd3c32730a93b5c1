/** All promises: long runs of mixed calls, each answered by the program and by the reference. */
public final class RandomRunsTest {
    private static final int RUNS = 600;
    /** More than the calls that one turn makes. */
    private static final int CALLS_OF_A_TURN = 70;
    private static final String LETTERS = "xyzAEae!()&|><=";

    private final Trial court = Trial.ofNew();
    private final Trial reference = new Trial(new Reference());
    private final int run;
    private long seed;
    private int principles = 0;
    private int problems = 0;

    private RandomRunsTest(int run) {
        this.run = run;
        seed = 7919L * run + 17;
    }

    public static void main(String[] args) {
        for (int run = 0; run < RUNS; run++) {
            new RandomRunsTest(run).calls();
        }
        Trial.end();
    }

    /** Of four runs three keep to calls of one kind, and the fourth mixes them. */
    private void calls() {
        while (reference.calls() < Trial.MOST_CALLS - CALLS_OF_A_TURN) {
            turn(run % 4 == 3 ? below(3) : run % 4);
        }
    }

    private void turn(int kind) {
        switch (kind) {
            case 0:
                formulaCalls();
                break;
            case 1:
                principleCalls();
                break;
            default:
                problemCalls();
        }
    }

    private int below(int bound) {
        seed = seed * 6364136223846793005L + 1442695040888963407L;
        return (int) ((seed >>> 33) % bound);
    }

    /** Mostly a number below the bound, at times one just out of range. */
    private int near(int bound) {
        return below(12) == 0 ? below(2) * (bound + 1) - 1 : below(Math.max(bound, 1));
    }

    private Object both(String call, Object... arguments) {
        Object due = reference.ask(call, arguments);
        Object answer = court.ask(call, arguments);
        Trial.check(due, answer, "run " + run + ": " + Trial.text(call, arguments));
        return answer;
    }

    private void type(String letters) {
        for (int place = 0; place < Math.min(letters.length(), 42); place++) {
            both("letter", letters.charAt(place));
        }
    }

    private char variable() {
        return (char) ('x' + below(3));
    }

    private String formula(int depth) {
        int kind = depth == 0 ? 0 : below(8);
        switch (kind) {
            case 1:
                return "!" + formula(depth - 1);
            case 2:
            case 3:
                return "(" + formula(depth - 1) + "&|>".charAt(below(3)) + formula(depth - 1) + ")";
            case 4:
            case 5:
                return "" + "AE".charAt(below(2)) + variable() + formula(depth - 1);
            case 6:
            case 7:
                return "" + "ae".charAt(below(2)) + variable() + variable() + formula(depth - 1);
            default:
                return "" + variable() + "<=".charAt(below(2)) + variable();
        }
    }

    private void formulaCalls() {
        if (below(3) > 0) {
            both("blank");
            type(formula(2 + below(4)));
        }
        for (int more = below(12) - 8; more > 0; more--) {
            both("letter", LETTERS.charAt(below(LETTERS.length())));
        }
        if (below(20) == 0) {
            both("letter", (char) below(200));
        }
        both("fault");
        both("sigma");
        both("pi");
        both("free");
        for (int tries = below(4); tries > 0; tries--) {
            int size = 1 + near(5);
            both("isSo", size, near(size), near(size), near(size));
        }
        if (below(4) == 0) {
            notePrinciple(both("principle"));
        }
    }

    private void notePrinciple(Object answer) {
        principles += answer instanceof Integer ? 1 : 0;
    }

    private int set() {
        return below(3) == 0 ? near(1 << principles) & ~below(1 << principles)
                : near(1 << principles);
    }

    private int fewPremises() {
        int bits = 0;
        for (int more = below(4); more > 0; more--) {
            bits |= 1 << below(Math.max(principles, 1));
        }
        return below(15) == 0 ? set() : bits;
    }

    private void principleCalls() {
        if (principles < 3 || below(8) == 0) {
            both("blank");
            type(below(2) == 0 ? "AxEyx<y" : "ExExx=x");
            notePrinciple(both("principle"));
        }
        switch (below(10)) {
            case 0:
            case 1:
            case 2:
            case 3:
                both("rule", fewPremises(), near(principles));
                break;
            case 4:
                model();
                break;
            case 5:
            case 6:
                proof();
                break;
            case 7:
                both("known", near(principles), near(principles));
                both("open");
                break;
            case 8:
                least();
                break;
            default:
                both("proves", set());
                both("ofPrinciple", near(principles), near(4));
        }
    }

    /** Mostly a set that breaks no rule, and not too often, for models leave no room for rules. */
    private void model() {
        Object proven = reference.ask("proves", set());
        if (proven instanceof Integer && below(3) > 0) {
            both("model", proven);
        } else if (below(2) == 0) {
            both("model", set());
        }
    }

    private void proof() {
        int set = fewPremises();
        int goal = near(principles);
        for (int at = below(8) == 0 ? -1 : 0; at < 11; at++) {
            if (both("proof", set, goal, at).equals(Trial.NONE)) {
                return;
            }
        }
    }

    private void least() {
        int goal = near(principles);
        int pool = set();
        both("least", goal, pool);
        both("leastAnew", goal, pool);
    }

    private void problemCalls() {
        switch (below(6)) {
            case 0:
                noteProblem(addProblem());
                break;
            case 1:
                noteProblem(both("product", near(problems), near(problems)));
                break;
            case 2:
                both("ofProblem", near(problems), near(3));
                break;
            case 3:
                game();
                break;
            default:
                reduction();
        }
    }

    private void noteProblem(Object answer) {
        problems += answer instanceof Integer ? 1 : 0;
    }

    private Object addProblem() {
        int instances = 1 + near(4);
        int answers = 1 + near(4);
        int solves = below(15) == 0 ? below(65536) : 0;
        for (int instance = 0; instance < instances; instance++) {
            int row = below(3) == 0 ? 1 << below(Math.max(answers, 1))
                    : below(1 << Math.max(answers, 1));
            solves |= row << 4 * instance;
        }
        return both("problem", instances, answers, solves);
    }

    private void reduction() {
        int problem = near(problems);
        int other = near(problems);
        both("reduces", problem, other);
        both("reducesAnew", problem, other);
        for (int instance = below(2) - 1; instance < below(6); instance++) {
            both("forth", problem, other, instance);
        }
    }

    private void game() {
        int rounds = 1 + near(4);
        int set = near(1 << (1 << Math.max(0, Math.min(rounds, 4))));
        both("has", rounds, set);
        both("hasAnew", rounds, set);
    }
}
