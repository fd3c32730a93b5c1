import java.util.Arrays;

/** The sentences on problems that name a boundary case: promises 19 to 24. */
public final class ProblemBoundsTest {
    private static final int MOST = 4;
    private static final int MOST_PROBLEMS = 6;
    private static final String[] BOTH_REDUCES = {"reduces", "reducesAnew"};
    /** As many instances as answers, each instance solved by the answer of its number. */
    private static final int[] OWN = {0, 0x1, 0x21, 0x421, 0x8421};

    private ProblemBoundsTest() {
    }

    public static void main(String[] args) {
        sixProblems();
        instancesAndAnswers();
        instancesOutOfRange();
        answersOutOfRange();
        anotherBit();
        eachInstanceSolved();
        answersThatSolveNothing();
        eachAnswerThatSolves();
        instancesOfTheOther();
        codes();
        lowestAndHighestCode();
        lowestCode();
        lowestInstance();
        forthOfTheBackMap();
        theSameProblem();
        doesNotReduce();
        reducesOfNone();
        instancesOfForth();
        products();
        productsWithItself();
        tooLargeProducts();
        noMoreProducts();
        productsOfNone();
        whatIsTold();
        Trial.end();
    }

    /** Each instance is solved by the last answer alone. */
    private static int byLast(int instances, int answers) {
        int solves = 0;
        for (int instance = 0; instance < instances; instance++) {
            solves |= 1 << 4 * instance + answers - 1;
        }
        return solves;
    }

    private static int byAll(int instances, int answers) {
        int solves = 0;
        for (int answer = 1; answer <= answers; answer++) {
            solves |= byLast(instances, answer);
        }
        return solves;
    }

    private static void tells(Trial court, int number, int instances, int answers, int solves) {
        court.due(instances, "ofProblem", number, 0).due(answers, "ofProblem", number, 1);
        court.due(solves, "ofProblem", number, 2);
    }

    // ---- problem

    private static void sixProblems() {
        Trial.sentence("PROBLEMS are numbered from 0, at most 6"
                + " / Promise 19: Throws IllegalStateException if there are 6");
        Trial court = Trial.ofNew();
        for (int number = 0; number < MOST_PROBLEMS; number++) {
            court.due(Trial.OUT_OF_BOUNDS, "ofProblem", number, 0);
            court.due(number, "problem", 1 + number % 4, 1, byAll(1 + number % 4, 1));
            court.due(1 + number % 4, "ofProblem", number, 0);
        }
        court.due(Trial.BAD_STATE, "problem", 1, 1, 1);
        court.due(Trial.BAD_STATE, "problem", 4, 4, 65535);
        court.due(Trial.OUT_OF_BOUNDS, "ofProblem", 6, 0);
    }

    private static void instancesAndAnswers() {
        Trial.sentence("each with instances, 1 to 4, and answers, 1 to 4, numbered from 0");
        for (int instances = 1; instances <= MOST; instances++) {
            for (int answers = 1; answers <= MOST; answers++) {
                Trial court = Trial.ofNew();
                int all = byAll(instances, answers);
                court.due(0, "problem", instances, answers, all);
                court.due(1, "problem", instances, answers, byLast(instances, answers));
                court.due(2, "problem", instances, answers, byAll(instances, 1));
                tells(court, 0, instances, answers, all);
                tells(court, 1, instances, answers, byLast(instances, answers));
                tells(court, 2, instances, answers, byAll(instances, 1));
            }
        }
    }

    private static void instancesOutOfRange() {
        Trial.sentence("Promise 19: instances: 1 to 4"
                + " / Throws IllegalArgumentException if instances ... is out of range");
        Trial court = Trial.ofNew();
        for (int off : Edges.outside(1, MOST)) {
            for (int solves : new int[] {0, 1, 0x11111, 65535, -1}) {
                court.due(Trial.BAD_ARGUMENT, "problem", off, 1, solves);
                court.due(Trial.BAD_ARGUMENT, "problem", off, 4, solves);
            }
        }
        court.due(0, "problem", 1, 1, 1);
    }

    private static void answersOutOfRange() {
        Trial.sentence("Promise 19: answers: 1 to 4"
                + " / Throws IllegalArgumentException if ... answers is out of range");
        Trial court = Trial.ofNew();
        for (int off : Edges.outside(1, MOST)) {
            for (int solves : new int[] {0, 1, 0x1111, 65535, -1}) {
                court.due(Trial.BAD_ARGUMENT, "problem", 1, off, solves);
                court.due(Trial.BAD_ARGUMENT, "problem", 4, off, solves);
            }
        }
        court.due(0, "problem", 1, 1, 1);
    }

    private static void anotherBit() {
        Trial.sentence("solves: the bit of 4 times the instance, and the answer, together ...;"
                + " others are 0 / Throws IllegalArgumentException if ... solves has another bit");
        for (int instances = 1; instances <= MOST; instances++) {
            for (int answers = 1; answers <= MOST; answers++) {
                int all = byAll(instances, answers);
                Trial court = Trial.ofNew();
                for (int bit = 0; bit < 32; bit++) {
                    if ((all >>> bit & 1) == 0) {
                        court.due(Trial.BAD_ARGUMENT, "problem", instances, answers,
                                all | 1 << bit);
                        court.due(Trial.BAD_ARGUMENT, "problem", instances, answers,
                                byAll(instances, 1) | 1 << bit);
                    }
                }
                court.due(Trial.BAD_ARGUMENT, "problem", instances, answers, -1);
                court.due(Trial.BAD_ARGUMENT, "problem", instances, answers, Edges.HIGHEST);
                court.due(0, "problem", instances, answers, all);
            }
        }
    }

    private static void eachInstanceSolved() {
        Trial.sentence("each instance has one that does / Throws IllegalArgumentException if ..."
                + " an instance has no answer that solves it");
        for (int instances = 1; instances <= MOST; instances++) {
            for (int answers = 1; answers <= MOST; answers++) {
                Trial court = Trial.ofNew();
                for (int unsolved = 0; unsolved < instances; unsolved++) {
                    int but = ~(15 << 4 * unsolved);
                    court.due(Trial.BAD_ARGUMENT, "problem", instances, answers,
                            byAll(instances, answers) & but);
                    court.due(Trial.BAD_ARGUMENT, "problem", instances, answers,
                            byLast(instances, answers) & but);
                }
                court.due(Trial.BAD_ARGUMENT, "problem", instances, answers, 0);
                court.due(Trial.BAD_ARGUMENT, "problem", instances, answers, Edges.LOWEST);
                court.due(0, "problem", instances, answers, byLast(instances, answers));
            }
        }
    }

    // ---- reduces, reducesAnew, forth

    private static void reducesBy(Trial court, int problem, int other, int code, int... forth) {
        for (String call : BOTH_REDUCES) {
            court.due(code, call, problem, other);
        }
        for (int instance = 0; instance < forth.length; instance++) {
            court.due(forth[instance], "forth", problem, other, instance);
        }
    }

    private static void answersThatSolveNothing() {
        Trial.sentence("A BACK map ... gives for each answer of the other one, those that solve"
                + " nothing with them, an answer of the first one");
        for (int solving = 0; solving < MOST; solving++) {
            Trial court = Trial.ofNew().due(0, "problem", 1, 4, 8);
            court.due(1, "problem", 1, 4, 1 << solving);
            reducesBy(court, 0, 1, 3 << 2 * solving, 0);
            court.due(2, "problem", 1, 3, 4).due(3, "problem", 2, 4, 0x11 << solving);
            reducesBy(court, 2, 3, 2 * (int) Math.pow(3, solving), 0);
        }
    }

    private static void eachAnswerThatSolves() {
        Trial.sentence("what the BACK map gives for each answer that solves the instance that the"
                + " FORTH map gives for it, solves it");
        for (int solving = 1; solving < 16; solving++) {
            Trial court = Trial.ofNew().due(0, "problem", 1, 2, 2).due(1, "problem", 1, 4, solving);
            reducesBy(court, 0, 1, solving, 0);
            court.due(2, "problem", 2, 2, 0x12).due(3, "problem", 2, 4, 0x10 * solving | 1);
            boolean first = (solving & 1) == 0;
            reducesBy(court, 2, 3, first ? 1 : Trial.NONE, first ? 0 : Trial.NONE,
                    first ? 1 : Trial.NONE);
        }
    }

    private static void instancesOfTheOther() {
        Trial.sentence("A FORTH map gives for each instance of the first one an instance of the"
                + " other one, one of 1 to 4");
        for (int instances = 1; instances <= MOST; instances++) {
            for (int others = 1; others <= MOST; others++) {
                Trial court = Trial.ofNew();
                court.due(0, "problem", instances, 2, byAll(instances, 1));
                court.due(1, "problem", others, 2, byAll(others, 1));
                reducesBy(court, 0, 1, 0, new int[instances]);
                court.due(2, "problem", others, 4, byAll(others - 1, 4) | 1 << 4 * others - 1);
                court.due(3, "problem", instances, 2, byLast(instances, 2));
                int[] last = new int[instances];
                Arrays.fill(last, others - 1);
                reducesBy(court, 3, 2, 8, last);
            }
        }
    }

    private static void codes() {
        Trial.sentence("The CODE of a BACK map is the sum of what it gives for the answer k, times"
                + " the number of answers of the first PROBLEM to the power of k");
        for (int answers = 1; answers <= MOST; answers++) {
            for (int others = 1; others <= MOST; others++) {
                Trial court = Trial.ofNew();
                court.due(0, "problem", 1, answers, 1 << answers - 1);
                court.due(1, "problem", 1, others, (1 << others) - 1);
                court.due(2, "problem", 1, others, 1 << others - 1);
                reducesBy(court, 0, 1, (int) Math.pow(answers, others) - 1, 0);
                reducesBy(court, 0, 2, (answers - 1) * (int) Math.pow(answers, others - 1), 0);
            }
        }
    }

    private static void lowestAndHighestCode() {
        Trial.sentence("the CODE is 0 at least, and 255 at most");
        Trial court = Trial.ofNew().due(0, "problem", 4, 4, 0x8888).due(1, "problem", 4, 4, 65535);
        court.due(2, "problem", 4, 4, 0x1111).due(3, "problem", 1, 1, 1);
        reducesBy(court, 0, 1, 255, 0, 0, 0, 0);
        reducesBy(court, 1, 1, 0, 0, 0, 0, 0);
        reducesBy(court, 2, 1, 0, 0, 0, 0, 0);
        reducesBy(court, 0, 3, 3, 0, 0, 0, 0);
        reducesBy(court, 3, 0, 0, 0);
        reducesBy(court, 3, 3, 0, 0);
    }

    private static void lowestCode() {
        Trial.sentence("The BACK map is that with the lowest CODE by which it REDUCES with some"
                + " FORTH map");
        for (int size = 1; size <= MOST; size++) {
            Trial court = Trial.ofNew().due(0, "problem", size, size, OWN[size]);
            int code = 0;
            int[] forth = new int[size];
            for (int place = 0; place < size; place++) {
                forth[place] = size - 1 - place;
                code = code * size + place;
            }
            reducesBy(court, 0, 0, code, forth);
        }
        Trial court = Trial.ofNew().due(0, "problem", 1, 3, 6).due(1, "problem", 3, 3, 0x653);
        reducesBy(court, 0, 1, 4, 0);
        court.due(2, "problem", 1, 4, 12).due(3, "problem", 2, 4, 0x96);
        reducesBy(court, 2, 3, 40, 0);
        court.due(4, "problem", 2, 4, 0xc3);
        reducesBy(court, 2, 4, 10, 0);
    }

    private static void lowestInstance() {
        Trial.sentence("then the FORTH map is that which gives for each instance the lowest one"
                + " that does");
        for (int lowest = 0; lowest < MOST; lowest++) {
            int solves = byAll(lowest, 2) | (byLast(MOST, 2) & -1 << 4 * lowest);
            Trial court = Trial.ofNew().due(0, "problem", 2, 2, 0x22);
            court.due(1, "problem", 4, 2, solves & 0xffff).due(2, "problem", 4, 2, 0x1111);
            reducesBy(court, 0, 1, 2, lowest, lowest);
            reducesBy(court, 0, 2, 1, 0, 0);
        }
        Trial court = Trial.ofNew().due(0, "problem", 2, 2, 0x21).due(1, "problem", 4, 2, 0x2211);
        reducesBy(court, 0, 1, 1, 2, 0);
        court.due(2, "problem", 4, 2, 0x1122);
        reducesBy(court, 0, 2, 1, 0, 2);
    }

    private static void forthOfTheBackMap() {
        Trial.sentence("then the FORTH map: that of the BACK map found, if another BACK map has a"
                + " lower one, too");
        Trial court = Trial.ofNew().due(0, "problem", 1, 2, 2).due(1, "problem", 2, 2, 0x12);
        reducesBy(court, 0, 1, 1, 1);
        court.due(2, "problem", 3, 3, 0x124).due(3, "problem", 1, 2, 2);
        reducesBy(court, 3, 2, 1, 2);
        court.due(4, "problem", 4, 4, 0x1248);
        reducesBy(court, 3, 4, 1, 3);
    }

    private static void theSameProblem() {
        Trial.sentence("Promise 21: ... to another one, or the same one");
        for (int instances = 1; instances <= MOST; instances++) {
            for (int answers = 1; answers <= MOST; answers++) {
                Trial court = Trial.ofNew();
                court.due(0, "problem", instances, answers, byLast(instances, answers));
                court.due(1, "problem", instances, answers, byAll(instances, answers));
                int code = (answers - 1) * (int) Math.pow(answers, answers - 1);
                reducesBy(court, 0, 0, code, new int[instances]);
                reducesBy(court, 1, 1, 0, new int[instances]);
            }
        }
    }

    private static void doesNotReduce() {
        Trial.sentence("Promises 21 to 23: NONE if it does not.");
        for (int size = 2; size <= MOST; size++) {
            Trial court = Trial.ofNew().due(0, "problem", size, size, OWN[size]);
            court.due(1, "problem", size - 1, size - 1, OWN[size - 1]);
            court.due(2, "problem", 4, 4, 65535).due(3, "problem", 1, 1, 1);
            for (int other = 1; other <= 3; other++) {
                int[] none = new int[size];
                Arrays.fill(none, Trial.NONE);
                reducesBy(court, 0, other, Trial.NONE, none);
            }
        }
        Trial court = Trial.ofNew().due(0, "problem", 4, 4, 0x8421).due(1, "problem", 3, 4, 0x421);
        reducesBy(court, 0, 1, Trial.NONE, -1, -1, -1, -1);
        court.due(2, "problem", 4, 3, 0x1421);
        reducesBy(court, 0, 2, Trial.NONE, -1, -1, -1, -1);
    }

    private static void reducesOfNone() {
        Trial.sentence("Promises 21 to 23: Throws IndexOutOfBoundsException if there is no such"
                + " PROBLEM, of both");
        for (int howMany : new int[] {0, 1, 5, 6}) {
            Trial court = Trial.ofNew();
            for (int number = 0; number < howMany; number++) {
                court.due(number, "problem", 4, 4, 0x8421);
            }
            int last = Math.max(howMany - 1, 0);
            for (int off : Edges.noneOf(howMany)) {
                for (String call : BOTH_REDUCES) {
                    court.due(Trial.OUT_OF_BOUNDS, call, off, 0);
                    court.due(Trial.OUT_OF_BOUNDS, call, last, off);
                    court.due(Trial.OUT_OF_BOUNDS, call, off, off);
                }
                court.due(Trial.OUT_OF_BOUNDS, "forth", off, 0, 0);
                court.due(Trial.OUT_OF_BOUNDS, "forth", last, off, 0);
                court.due(Trial.OUT_OF_BOUNDS, "forth", off, off, 0);
            }
            if (howMany > 0) {
                reducesBy(court, last, 0, 27, 3, 2, 1, 0);
            }
        }
    }

    private static void instancesOfForth() {
        Trial.sentence("Promise 23: instance: of the first PROBLEM"
                + " / Throws IndexOutOfBoundsException if there is no such ... instance");
        Trial court = Trial.ofNew();
        for (int instances = 1; instances <= MOST; instances++) {
            court.due(instances - 1, "problem", instances, 4, byAll(instances, 1));
        }
        court.due(4, "problem", 2, 2, 0x21);
        for (int instances = 1; instances <= MOST; instances++) {
            for (int off : Edges.noneOf(instances)) {
                court.due(Trial.OUT_OF_BOUNDS, "forth", instances - 1, 0, off);
                court.due(Trial.OUT_OF_BOUNDS, "forth", instances - 1, 3, off);
            }
            for (int instance = 0; instance < instances; instance++) {
                court.due(0, "forth", instances - 1, 3, instance);
                court.due(0, "forth", instances - 1, 0, instance);
            }
        }
        for (int off : Edges.noneOf(2)) {
            court.due(Trial.OUT_OF_BOUNDS, "forth", 4, 0, off);
        }
        court.due(Trial.NONE, "forth", 4, 0, 0).due(Trial.NONE, "forth", 4, 0, 1);
    }

    // ---- product

    private static void products() {
        Trial.sentence("The PRODUCT ... has an instance for each instance of the first one and of"
                + " the second one ...; likewise answers; an answer solves an instance, if both"
                + " do.");
        Trial court = Trial.ofNew().due(0, "problem", 1, 4, 5).due(1, "problem", 4, 1, 0x1111);
        court.due(2, "problem", 2, 2, 0x31).due(3, "product", 0, 1).due(4, "product", 1, 0);
        tells(court, 3, 4, 4, 0x5555);
        tells(court, 4, 4, 4, 0x5555);
        court.due(5, "product", 2, 2);
        tells(court, 5, 4, 4, 0xf531);
        court = Trial.ofNew().due(0, "problem", 2, 2, 0x31).due(1, "problem", 2, 2, 0x12);
        court.due(2, "product", 0, 1).due(3, "product", 1, 0);
        tells(court, 2, 4, 4, 0x5a12);
        tells(court, 3, 4, 4, 0x31c4);
        court.due(4, "problem", 1, 1, 1).due(5, "product", 4, 2);
        tells(court, 5, 4, 4, 0x5a12);
    }

    private static void productsWithItself() {
        Trial.sentence("The PRODUCT of two PROBLEMS, or of one with itself");
        Trial court = Trial.ofNew().due(0, "problem", 1, 1, 1).due(1, "product", 0, 0);
        tells(court, 1, 1, 1, 1);
        court.due(2, "problem", 1, 2, 2).due(3, "product", 2, 2);
        tells(court, 3, 1, 4, 8);
        court.due(4, "problem", 2, 1, 0x11).due(5, "product", 4, 4);
        tells(court, 5, 4, 1, 0x1111);
    }

    private static void tooLargeProducts() {
        Trial.sentence("Promise 20: Throws IllegalStateException if ... it would have more than 4"
                + " instances, or answers");
        for (int one = 1; one <= MOST; one++) {
            for (int two = 1; two <= MOST; two++) {
                boolean fits = one * two <= MOST;
                Trial court = Trial.ofNew().due(0, "problem", one, 1, byAll(one, 1));
                court.due(1, "problem", two, 1, byAll(two, 1));
                court.due(2, "problem", 1, one, 1 << one - 1).due(3, "problem", 1, two, 1);
                court.due(fits ? 4 : Trial.BAD_STATE, "product", 0, 1);
                court.due(fits ? 5 : Trial.BAD_STATE, "product", 2, 3);
            }
        }
        Trial court = Trial.ofNew().due(0, "problem", 4, 4, 65535);
        court.due(Trial.BAD_STATE, "product", 0, 0).due(1, "problem", 1, 1, 1);
        court.due(2, "product", 0, 1);
    }

    private static void noMoreProducts() {
        Trial.sentence("Promise 20: Throws IllegalStateException if there are 6");
        Trial court = Trial.ofNew().due(0, "problem", 1, 2, 2);
        court.due(1, "problem", 1, 1, 1);
        for (int number = 2; number < MOST_PROBLEMS; number++) {
            court.due(number, "product", number - 1, 1);
        }
        court.due(Trial.BAD_STATE, "product", 1, 1).due(Trial.BAD_STATE, "product", 5, 5);
        court.due(Trial.BAD_STATE, "problem", 1, 1, 1);
        court.due(Trial.OUT_OF_BOUNDS, "ofProblem", MOST_PROBLEMS, 0);
    }

    private static void productsOfNone() {
        Trial.sentence("Promise 20: Throws IndexOutOfBoundsException if there is no such PROBLEM,"
                + " of both");
        for (int howMany : new int[] {0, 1, 5, 6}) {
            Trial court = Trial.ofNew();
            for (int number = 0; number < howMany; number++) {
                court.due(number, "problem", 1 + number % 4, 1, byAll(1 + number % 4, 1));
            }
            for (int off : Edges.noneOf(howMany)) {
                court.due(Trial.OUT_OF_BOUNDS, "product", off, 0);
                court.due(Trial.OUT_OF_BOUNDS, "product", Math.max(howMany - 1, 0), off);
                court.due(Trial.OUT_OF_BOUNDS, "product", off, off);
            }
        }
    }

    // ---- ofProblem

    private static void whatIsTold() {
        Trial.sentence("Promise 24: what: 0 to 2 / Throws IndexOutOfBoundsException if there is no"
                + " such PROBLEM / Throws IllegalArgumentException if what is out of range");
        for (int howMany : new int[] {0, 1, 5, 6}) {
            Trial court = Trial.ofNew();
            for (int number = 0; number < howMany; number++) {
                court.due(number, "problem", 4, 4, 0x8421);
            }
            for (int off : Edges.noneOf(howMany)) {
                for (int what = -1; what <= 3; what++) {
                    court.due(Trial.OUT_OF_BOUNDS, "ofProblem", off, what);
                }
            }
            for (int off : Edges.noneOf(3)) {
                court.due(howMany == 0 ? Trial.OUT_OF_BOUNDS : Trial.BAD_ARGUMENT,
                        "ofProblem", Math.max(howMany - 1, 0), off);
            }
        }
        Trial court = Trial.ofNew().due(0, "problem", 4, 4, 65535).due(1, "problem", 1, 1, 1);
        tells(court, 0, 4, 4, 65535);
        tells(court, 1, 1, 1, 1);
    }
}
