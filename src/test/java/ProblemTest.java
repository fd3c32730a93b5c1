/** Promises 19 to 24: problem, product, reduces, reducesAnew, forth, ofProblem. */
public final class ProblemTest {
    private static final int MANY = Integer.MAX_VALUE;
    private static final int FEW = Integer.MIN_VALUE;
    /** Two instances, two answers: each instance is solved by the answer of its number. */
    private static final int ITS_OWN = 33;
    /** Two instances, two answers: each instance is solved by the other answer. */
    private static final int CROSSED = 18;

    private ProblemTest() {
    }

    public static void main(String[] args) {
        problems();
        wrongProblems();
        sixProblems();
        products();
        wrongProducts();
        reductions();
        reductionsThatAreNone();
        codesOfUnusedAnswers();
        unlikeSizes();
        largestReductions();
        oneBehindAnother();
        wrongReductions();
        tales();
        Trial.end();
    }

    private static void tells(Trial court, int number, int instances, int answers, int solves) {
        court.due(instances, "ofProblem", number, 0).due(answers, "ofProblem", number, 1);
        court.due(solves, "ofProblem", number, 2);
    }

    private static void problems() {
        Trial court = Trial.ofNew();
        court.due(0, "problem", 1, 1, 1).due(1, "problem", 4, 4, 65535);
        court.due(2, "problem", 1, 4, 8).due(3, "problem", 4, 1, 4369);
        court.due(4, "problem", 3, 2, 0x213).due(5, "problem", 1, 1, 1);
        tells(court, 0, 1, 1, 1);
        tells(court, 1, 4, 4, 65535);
        tells(court, 2, 1, 4, 8);
        tells(court, 3, 4, 1, 4369);
        tells(court, 4, 3, 2, 0x213);
    }

    private static void wrongProblems() {
        Trial court = Trial.ofNew();
        for (int off : new int[] {0, 5, -1, MANY, FEW}) {
            court.due(Trial.BAD_ARGUMENT, "problem", off, 1, 1);
            court.due(Trial.BAD_ARGUMENT, "problem", 1, off, 1);
            court.due(Trial.BAD_ARGUMENT, "problem", off, 4, 65535);
        }
        for (int solves : new int[] {0, 2, 3, 8, 16, 17, 65537, -1, FEW, FEW + 1}) {
            court.due(Trial.BAD_ARGUMENT, "problem", 1, 1, solves);
        }
        for (int solves : new int[] {0, 1, 16, 3, 48, 65536 + ITS_OWN, 4 + ITS_OWN, 64 + ITS_OWN,
            256 + ITS_OWN, FEW + ITS_OWN}) {
            court.due(Trial.BAD_ARGUMENT, "problem", 2, 2, solves);
        }
        for (int solves : new int[] {65536 + 65535, 0xfff, 0xfff0, 0xff0f, 0xf0ff, -1, MANY, FEW}) {
            court.due(Trial.BAD_ARGUMENT, "problem", 4, 4, solves);
        }
        court.due(Trial.OUT_OF_BOUNDS, "ofProblem", 0, 0).due(0, "problem", 2, 2, ITS_OWN);
    }

    private static void sixProblems() {
        Trial court = Trial.ofNew();
        for (int number = 0; number < 6; number++) {
            court.due(number, "problem", 1, 1, 1);
        }
        court.due(Trial.BAD_STATE, "problem", 1, 1, 1).due(Trial.BAD_ARGUMENT, "problem", 1, 1, 2);
        court.due(Trial.BAD_STATE, "product", 0, 5).due(Trial.OUT_OF_BOUNDS, "product", 0, 6);
        court.due(Trial.OUT_OF_BOUNDS, "ofProblem", 6, 0);
    }

    private static void products() {
        Trial court = Trial.ofNew();
        court.due(0, "problem", 2, 2, ITS_OWN).due(1, "problem", 1, 2, 2);
        court.due(2, "product", 0, 0).due(3, "product", 1, 0).due(4, "product", 0, 1);
        tells(court, 2, 4, 4, 33825);
        tells(court, 3, 2, 4, 132);
        tells(court, 4, 2, 4, 130);
        tells(court, 0, 2, 2, ITS_OWN);
        court.due(5, "product", 1, 1);
        tells(court, 5, 1, 4, 8);
        court = Trial.ofNew();
        court.due(0, "problem", 1, 1, 1).due(1, "problem", 4, 4, 0x5a3c);
        court.due(2, "product", 0, 1).due(3, "product", 1, 0).due(4, "product", 0, 0);
        tells(court, 2, 4, 4, 0x5a3c);
        tells(court, 3, 4, 4, 0x5a3c);
        tells(court, 4, 1, 1, 1);
        court = Trial.ofNew();
        court.due(0, "problem", 3, 1, 0x111).due(1, "problem", 1, 3, 5).due(2, "product", 0, 1);
        tells(court, 2, 3, 3, 0x555);
    }

    private static void wrongProducts() {
        Trial court = Trial.ofNew();
        court.due(0, "problem", 2, 1, 17).due(1, "problem", 3, 1, 273);
        court.due(2, "problem", 1, 2, 1).due(3, "problem", 1, 3, 1).due(4, "problem", 4, 4, 4369);
        court.due(Trial.BAD_STATE, "product", 0, 1).due(Trial.BAD_STATE, "product", 1, 0);
        court.due(Trial.BAD_STATE, "product", 1, 1).due(Trial.BAD_STATE, "product", 2, 3);
        court.due(Trial.BAD_STATE, "product", 3, 2).due(Trial.BAD_STATE, "product", 3, 3);
        court.due(Trial.BAD_STATE, "product", 4, 4).due(Trial.BAD_STATE, "product", 4, 0);
        for (int off : new int[] {-1, 5, MANY, FEW}) {
            court.due(Trial.OUT_OF_BOUNDS, "product", off, 0);
            court.due(Trial.OUT_OF_BOUNDS, "product", 4, off);
            court.due(Trial.OUT_OF_BOUNDS, "product", off, off);
        }
        court.due(5, "product", 0, 2);
        tells(court, 5, 2, 2, 17);
    }

    private static void reducesBy(Trial court, int problem, int other, int code, int... forth) {
        court.due(code, "reduces", problem, other).due(code, "reducesAnew", problem, other);
        for (int instance = 0; instance < forth.length; instance++) {
            court.due(forth[instance], "forth", problem, other, instance);
        }
        court.due(Trial.OUT_OF_BOUNDS, "forth", problem, other, forth.length);
    }

    private static void reductions() {
        Trial court = Trial.ofNew();
        court.due(0, "problem", 2, 2, ITS_OWN).due(1, "problem", 2, 2, CROSSED);
        court.due(2, "problem", 1, 1, 1).due(3, "problem", 3, 3, 0x421);
        reducesBy(court, 0, 0, 1, 1, 0);
        reducesBy(court, 0, 1, 1, 0, 1);
        reducesBy(court, 1, 0, 1, 0, 1);
        reducesBy(court, 1, 1, 1, 1, 0);
        reducesBy(court, 2, 0, 0, 0);
        reducesBy(court, 2, 2, 0, 0);
        reducesBy(court, 0, 3, 1, 1, 0);
        reducesBy(court, 3, 3, 5, 2, 1, 0);
    }

    private static void reductionsThatAreNone() {
        Trial court = Trial.ofNew();
        court.due(0, "problem", 2, 2, ITS_OWN).due(1, "problem", 1, 1, 1);
        court.due(2, "problem", 3, 3, 0x421).due(3, "problem", 2, 2, 0x33);
        reducesBy(court, 0, 1, Trial.NONE, Trial.NONE, Trial.NONE);
        reducesBy(court, 2, 0, Trial.NONE, Trial.NONE, Trial.NONE, Trial.NONE);
        reducesBy(court, 0, 3, Trial.NONE, Trial.NONE, Trial.NONE);
        reducesBy(court, 3, 0, 0, 0, 0);
    }

    /** A BACK map gives something for an answer that solves nothing, too: the lowest code 0. */
    private static void codesOfUnusedAnswers() {
        Trial court = Trial.ofNew();
        court.due(0, "problem", 1, 2, 2).due(1, "problem", 1, 4, 8).due(2, "problem", 1, 4, 5);
        court.due(3, "problem", 2, 3, 0x24);
        reducesBy(court, 0, 0, 2, 0);
        reducesBy(court, 0, 1, 8, 0);
        reducesBy(court, 0, 2, 5, 0);
        reducesBy(court, 1, 0, 12, 0);
        reducesBy(court, 3, 1, Trial.NONE, Trial.NONE, Trial.NONE);
        reducesBy(court, 3, 3, 15, 1, 0);
    }

    /** One of both has more instances, and the FORTH map takes the last ones. */
    private static void unlikeSizes() {
        Trial court = Trial.ofNew();
        court.due(0, "problem", 1, 2, 2).due(1, "problem", 2, 2, CROSSED);
        court.due(2, "problem", 3, 2, 0x122).due(3, "problem", 2, 2, ITS_OWN);
        court.due(4, "problem", 3, 2, 0x123);
        reducesBy(court, 0, 1, 1, 1);
        reducesBy(court, 2, 3, 1, 0, 0, 1);
        reducesBy(court, 3, 4, 1, 1, 2);
        reducesBy(court, 4, 3, 1, 0, 0, 1);
        reducesBy(court, 0, 4, 1, 2);
    }

    /** What one call found is nothing to the next one. */
    private static void oneBehindAnother() {
        Trial court = Trial.ofNew();
        court.due(0, "problem", 4, 4, 0x8412).due(1, "problem", 1, 2, 2).due(2, "problem", 1, 1, 1);
        for (String call : new String[] {"reduces", "reducesAnew"}) {
            court.due(27, call, 0, 0).due(1, call, 1, 2).due(0, call, 2, 0);
            court.due(27, call, 0, 0).due(1, call, 1, 2).due(Trial.NONE, call, 0, 1);
            court.due(1, call, 1, 2).due(1, call, 1, 0);
        }
        court.due(2, "forth", 0, 0, 0).due(3, "forth", 0, 0, 1).due(0, "forth", 1, 2, 0);
    }

    private static void largestReductions() {
        Trial court = Trial.ofNew();
        court.due(0, "problem", 4, 4, 0x8421).due(1, "problem", 4, 4, 0x1111);
        court.due(2, "problem", 4, 4, 0x8888).due(3, "problem", 4, 4, 0xffff);
        reducesBy(court, 0, 0, 3 + 2 * 4 + 16, 3, 2, 1, 0);
        reducesBy(court, 1, 0, 0, 0, 0, 0, 0);
        reducesBy(court, 0, 1, Trial.NONE, Trial.NONE, Trial.NONE, Trial.NONE, Trial.NONE);
        reducesBy(court, 2, 3, 255, 0, 0, 0, 0);
        reducesBy(court, 2, 2, 192, 0, 0, 0, 0);
        reducesBy(court, 3, 0, 0, 0, 0, 0, 0);
    }

    private static void wrongReductions() {
        Trial court = Trial.ofNew();
        court.due(0, "problem", 2, 2, ITS_OWN).due(1, "problem", 1, 1, 1);
        for (int off : new int[] {-1, 2, MANY, FEW}) {
            for (String call : new String[] {"reduces", "reducesAnew"}) {
                court.due(Trial.OUT_OF_BOUNDS, call, off, 0);
                court.due(Trial.OUT_OF_BOUNDS, call, 1, off);
                court.due(Trial.OUT_OF_BOUNDS, call, off, off);
            }
            court.due(Trial.OUT_OF_BOUNDS, "forth", off, 0, 0);
            court.due(Trial.OUT_OF_BOUNDS, "forth", 0, off, 0);
            court.due(Trial.OUT_OF_BOUNDS, "forth", 0, 0, off);
            court.due(Trial.OUT_OF_BOUNDS, "forth", 0, 1, off);
        }
        court.due(Trial.OUT_OF_BOUNDS, "forth", 1, 0, 1).due(0, "forth", 1, 0, 0);
        court.due(0, "forth", 0, 0, 1);
    }

    private static void tales() {
        Trial court = Trial.ofNew().due(0, "problem", 2, 2, CROSSED);
        for (int off : new int[] {-1, 1, MANY, FEW}) {
            court.due(Trial.OUT_OF_BOUNDS, "ofProblem", off, 0);
            court.due(Trial.OUT_OF_BOUNDS, "ofProblem", off, 3);
        }
        for (int what : new int[] {-1, 3, MANY, FEW}) {
            court.due(Trial.BAD_ARGUMENT, "ofProblem", 0, what);
        }
        tells(court, 0, 2, 2, CROSSED);
    }
}
