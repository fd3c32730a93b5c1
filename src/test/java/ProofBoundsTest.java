/** The sentences on proofs and on what is known that name a boundary case: promises 13 to 17. */
public final class ProofBoundsTest {
    private static final int ALL = 1023;
    private static final String[] BOTH_LEAST = {"least", "leastAnew"};

    private ProofBoundsTest() {
    }

    public static void main(String[] args) {
        lowestRule();
        conclusionNotThere();
        untilTheGoalIsThere();
        stepsNotNeeded();
        premisesOfNeededSteps();
        stayInOrder();
        goalsInTheSet();
        steps();
        provesNot();
        proofsWithoutPrinciple();
        placesBelowZero();
        setsOfProofs();
        implies();
        setOfItAlone();
        doesNot();
        open();
        theSame();
        knownOfNone();
        pairs();
        allPairs();
        fewest();
        lowestOfSeveral();
        ofThePool();
        emptyLeast();
        wholePools();
        poolProvesNot();
        leastOfNone();
        poolsOutOfRange();
        Trial.end();
    }

    private static void proofIs(Trial court, int set, int goal, int... rules) {
        for (int at = 0; at < rules.length; at++) {
            court.due(rules[at], "proof", set, goal, at);
        }
        court.due(Trial.NONE, "proof", set, goal, rules.length);
        court.due(Trial.NONE, "proof", set, goal, rules.length + 1);
    }

    // ---- proof

    private static void lowestRule() {
        Trial.sentence("again and again the RULE with the lowest number whose premises are there");
        Trial court = Trial.ofNew().principles(3);
        for (int rule = 0; rule < 30; rule++) {
            court.due(rule, "rule", rule < 7 ? 2 : rule < 29 ? 1 : 0, 2);
        }
        proofIs(court, 2, 2, 0);
        proofIs(court, 3, 2, 0);
        proofIs(court, 1, 2, 7);
        proofIs(court, 0, 2, 29);
        court = Trial.ofNew().principles(4).due(0, "rule", 2, 3).due(1, "rule", 0, 1);
        court.due(2, "rule", 0, 3);
        proofIs(court, 0, 3, 1, 0);
        proofIs(court, 2, 3, 0);
    }

    private static void conclusionNotThere() {
        Trial.sentence("and whose conclusion is not");
        Trial court = Trial.ofNew().principles(3).due(0, "rule", 0, 1).due(1, "rule", 0, 1);
        court.due(2, "rule", 2, 2);
        proofIs(court, 0, 2, 0, 2);
        proofIs(court, 0, 1, 0);
        proofIs(court, 2, 2, 2);
    }

    private static void untilTheGoalIsThere() {
        Trial.sentence("and its conclusion is there from then on, until the goal is there");
        Trial court = Trial.ofNew().principles(4).due(0, "rule", 4, 3).due(1, "rule", 0, 1);
        court.due(2, "rule", 2, 2).due(3, "rule", 0, 3);
        proofIs(court, 0, 1, 1);
        proofIs(court, 0, 2, 1, 2);
        proofIs(court, 0, 3, 1, 2, 0);
        court = Trial.ofNew().principles(3).due(0, "rule", 2, 0).due(1, "rule", 4, 1);
        proofIs(court, 4, 1, 1);
        proofIs(court, 4, 0, 1, 0);
    }

    private static void stepsNotNeeded() {
        Trial.sentence("then the steps that are not needed are left out:"
                + " needed is the one by which the goal came");
        for (int goal = 0; goal < 10; goal++) {
            Trial court = Trial.ofNew().principles(10);
            for (int rule = 0; rule < 10; rule++) {
                court.due(rule, "rule", 0, rule);
            }
            proofIs(court, 0, goal, goal);
            proofIs(court, ALL & ~(1 << goal), goal, goal);
        }
    }

    private static void premisesOfNeededSteps() {
        Trial.sentence("and, of each step that is needed, those by which its premises came");
        for (int premises = 0; premises < 512; premises += 37) {
            Trial court = Trial.ofNew().principles(10);
            int[] due = new int[Integer.bitCount(premises) + 1];
            int needed = 0;
            for (int rule = 0; rule < 9; rule++) {
                court.due(rule, "rule", 0, rule);
                if ((premises >> rule & 1) != 0) {
                    due[needed] = rule;
                    needed++;
                }
            }
            due[needed] = 9;
            court.due(9, "rule", premises, 9);
            proofIs(court, 0, 9, due);
            proofIs(court, premises, 9, 9);
        }
        Trial court = Trial.ofNew().principles(5).due(0, "rule", 0, 0).due(1, "rule", 1, 1);
        court.due(2, "rule", 1, 2).due(3, "rule", 2, 3).due(4, "rule", 8, 4);
        proofIs(court, 0, 4, 0, 1, 3, 4);
        proofIs(court, 1, 4, 1, 3, 4);
        proofIs(court, 2, 4, 3, 4);
        proofIs(court, 5, 4, 1, 3, 4);
    }

    private static void stayInOrder() {
        Trial.sentence("The others stay in their order.");
        Trial court = Trial.ofNew().principles(10);
        for (int rule = 0; rule < 9; rule++) {
            court.due(rule, "rule", 1 << 9 - rule, 8 - rule);
        }
        proofIs(court, 512, 0, 0, 1, 2, 3, 4, 5, 6, 7, 8);
        court = Trial.ofNew().principles(10);
        for (int rule = 0; rule < 9; rule++) {
            court.due(rule, "rule", 2 << rule, rule);
        }
        proofIs(court, 512, 0, 8, 7, 6, 5, 4, 3, 2, 1, 0);
        proofIs(court, 512, 7, 8, 7);
        proofIs(court, 2, 0, 0);
        court = Trial.ofNew().principles(4).due(0, "rule", 6, 3).due(1, "rule", 4, 1);
        court.due(2, "rule", 1, 2);
        proofIs(court, 1, 3, 2, 1, 0);
    }

    private static void goalsInTheSet() {
        Trial.sentence("A goal that is in the set has no steps.");
        Trial court = Trial.ofNew().principles(10);
        for (int rule = 0; rule < 10; rule++) {
            court.due(rule, "rule", 0, rule);
        }
        for (int goal = 0; goal < 10; goal++) {
            court.due(Trial.NONE, "proof", 1 << goal, goal, 0);
            court.due(Trial.NONE, "proof", ALL, goal, 0);
            court.due(Trial.NONE, "proof", ALL, goal, Edges.HIGHEST);
            court.due(goal, "proof", 0, goal, 0);
        }
    }

    private static void steps() {
        Trial.sentence("Promise 13: at: the step, from 0 / NONE if there are fewer steps");
        Trial court = Trial.ofNew().principles(10);
        for (int rule = 0; rule < 10; rule++) {
            court.due(rule, "rule", (1 << rule) - 1, rule);
        }
        for (int goal = 0; goal < 10; goal++) {
            for (int at = 0; at < 12; at++) {
                court.due(at <= goal ? at : Trial.NONE, "proof", 0, goal, at);
            }
            for (int far : new int[] {31, 32, 33, 64, 256, 65536, Edges.HIGHEST}) {
                court.due(Trial.NONE, "proof", 0, goal, far);
            }
        }
        court.due(Trial.NONE, "proof", 1022, 0, 1).due(0, "proof", 1022, 0, 0);
    }

    private static void provesNot() {
        Trial.sentence("Promise 13: NONE if ... the set does not PROVE the goal");
        Trial court = Trial.ofNew().principles(10).due(Trial.NONE, "proof", 0, 0, 0);
        court.due(Trial.NONE, "proof", 1022, 0, 0).due(Trial.NONE, "proof", 511, 9, 9);
        court.due(0, "rule", 511, 9).due(1, "rule", 512, 8);
        court.due(Trial.NONE, "proof", 510, 9, 0).due(0, "proof", 511, 9, 0);
        court.due(Trial.NONE, "proof", 255, 8, 0).due(1, "proof", 512, 8, 0);
        court.due(Trial.NONE, "proof", 512, 7, 0).due(Trial.NONE, "proof", 0, 9, Edges.HIGHEST);
    }

    private static void proofsWithoutPrinciple() {
        Trial.sentence("Promise 13: Throws IndexOutOfBoundsException if there is no such"
                + " PRINCIPLE");
        for (int howMany : new int[] {0, 1, 9, 10}) {
            Trial court = Trial.ofNew().principles(howMany);
            for (int off : Edges.noneOf(howMany)) {
                court.due(Trial.OUT_OF_BOUNDS, "proof", 0, off, 0);
                court.due(Trial.OUT_OF_BOUNDS, "proof", (1 << howMany) - 1, off, 0);
                court.due(Trial.OUT_OF_BOUNDS, "proof", 1 << howMany, off, 0);
                court.due(Trial.OUT_OF_BOUNDS, "proof", -1, off, -1);
            }
            for (int goal = 0; goal < howMany; goal++) {
                court.due(Trial.NONE, "proof", 0, goal, 0);
            }
        }
    }

    private static void placesBelowZero() {
        Trial.sentence("Promise 13: Throws IndexOutOfBoundsException if ... at is below 0");
        Trial court = Trial.ofNew().principles(2).due(0, "rule", 1, 1).due(0, "proof", 1, 1, 0);
        for (int at : new int[] {-1, -2, -32, -256, -65536, Edges.LOWEST, Edges.LOWEST + 1}) {
            court.due(Trial.OUT_OF_BOUNDS, "proof", 1, 1, at);
            court.due(Trial.OUT_OF_BOUNDS, "proof", 2, 1, at);
            court.due(Trial.OUT_OF_BOUNDS, "proof", 0, 0, at);
            court.due(Trial.OUT_OF_BOUNDS, "proof", 4, 1, at);
        }
    }

    private static void setsOfProofs() {
        Trial.sentence("Promise 13: Throws IllegalArgumentException if set is out of range");
        for (int howMany : new int[] {1, 2, 9, 10}) {
            Trial court = Trial.ofNew().principles(howMany);
            for (int off : Edges.noSets(howMany)) {
                court.due(Trial.BAD_ARGUMENT, "proof", off, 0, 0);
                court.due(Trial.BAD_ARGUMENT, "proof", off, howMany - 1, Edges.HIGHEST);
            }
            court.due(Trial.NONE, "proof", (1 << howMany) - 1, 0, 0);
        }
    }

    // ---- known, open

    private static void implies() {
        Trial.sentence("the first one IMPLIES the second one, if the set of it alone PROVES that");
        Trial court = Trial.ofNew().principles(10);
        for (int rule = 0; rule < 9; rule++) {
            court.due(rule, "rule", 1 << rule, rule + 1);
        }
        for (int first = 0; first < 10; first++) {
            for (int second = 0; second < 10; second++) {
                if (first != second) {
                    court.due(first < second ? ReversalCourt.IMPLIES : ReversalCourt.OPEN,
                            "known", first, second);
                }
            }
        }
        court = Trial.ofNew().principles(3).due(0, "rule", 0, 1);
        court.due(ReversalCourt.IMPLIES, "known", 0, 1).due(ReversalCourt.IMPLIES, "known", 2, 1);
        court.due(ReversalCourt.OPEN, "known", 1, 0);
    }

    private static void setOfItAlone() {
        Trial.sentence("the set of it alone: a RULE with one more premise does not do");
        Trial court = Trial.ofNew().principles(3).due(0, "rule", 3, 2);
        court.due(ReversalCourt.OPEN, "known", 0, 2).due(ReversalCourt.OPEN, "known", 1, 2);
        court.due(1, "rule", 1, 1);
        court.due(ReversalCourt.IMPLIES, "known", 0, 2).due(ReversalCourt.OPEN, "known", 1, 2);
    }

    private static void doesNot() {
        Trial.sentence("it DOES_NOT, if a MODEL has it, and not the second one");
        for (int one = 0; one < 10; one++) {
            Trial court = Trial.ofNew().principles(3);
            for (int model = 0; model < 10; model++) {
                court.due(model, "model", model == one ? 5 : model % 2 == 0 ? 0 : 7);
            }
            court.due(ReversalCourt.DOES_NOT, "known", 0, 1);
            court.due(ReversalCourt.DOES_NOT, "known", 2, 1);
            court.due(ReversalCourt.OPEN, "known", 1, 0).due(ReversalCourt.OPEN, "known", 0, 2);
            court.due(ReversalCourt.OPEN, "known", 2, 0).due(ReversalCourt.OPEN, "known", 1, 2);
        }
    }

    private static void open() {
        Trial.sentence("otherwise it is OPEN");
        Trial court = Trial.ofNew().principles(2).due(ReversalCourt.OPEN, "known", 0, 1);
        court.due(0, "model", 0).due(1, "model", 3).due(2, "model", 2);
        court.due(ReversalCourt.OPEN, "known", 0, 1).due(ReversalCourt.DOES_NOT, "known", 1, 0);
        court.due(0, "rule", 1, 1).due(ReversalCourt.IMPLIES, "known", 0, 1);
    }

    private static void theSame() {
        Trial.sentence("Of two unlike PRINCIPLES"
                + " / Promise 14: Throws IllegalArgumentException if both are the same");
        Trial court = Trial.ofNew().principles(10);
        for (int number = 0; number < 10; number++) {
            court.due(Trial.BAD_ARGUMENT, "known", number, number);
        }
        court.due(ReversalCourt.OPEN, "known", 0, 9).due(ReversalCourt.OPEN, "known", 9, 0);
        Trial.ofNew().principles(1).due(Trial.BAD_ARGUMENT, "known", 0, 0);
    }

    private static void knownOfNone() {
        Trial.sentence("Promise 14: Throws IndexOutOfBoundsException if there is no such PRINCIPLE,"
                + " of both");
        for (int howMany : new int[] {0, 1, 9, 10}) {
            Trial court = Trial.ofNew().principles(howMany);
            for (int off : Edges.noneOf(howMany)) {
                court.due(Trial.OUT_OF_BOUNDS, "known", off, 0);
                court.due(Trial.OUT_OF_BOUNDS, "known", Math.max(howMany - 1, 0), off);
                court.due(Trial.OUT_OF_BOUNDS, "known", off, off);
                court.due(Trial.OUT_OF_BOUNDS, "known", off, ~off);
            }
        }
    }

    private static void pairs() {
        Trial.sentence("Promise 15: Returns of how many pairs of a first PRINCIPLE and a second,"
                + " unlike one, each order counted by itself, it is OPEN.");
        Trial court = Trial.ofNew().due(0, "open");
        for (int howMany = 1; howMany <= 10; howMany++) {
            court.principles(1).due(howMany * (howMany - 1), "open");
        }
        court.due(0, "rule", 1, 9).due(89, "open").due(1, "rule", 512, 0).due(88, "open");
        court.due(0, "model", 1022 - 512).due(88 - 16, "open").due(1, "model", 513);
        court.due(88 - 32, "open").due(2, "model", 0).due(3, "model", ALL).due(88 - 32, "open");
    }

    private static void allPairs() {
        Trial.sentence("Promise 15: all pairs of 10 are known, or just one of both orders");
        Trial court = Trial.ofNew().principles(10);
        for (int rule = 0; rule < 9; rule++) {
            court.due(rule, "rule", 1 << rule, rule + 1);
            court.due(90 - (rule + 1) * (rule + 2) / 2, "open");
        }
        court.due(9, "rule", 512, 0).due(0, "open");
        court = Trial.ofNew().principles(10);
        for (int model = 0; model < 10; model++) {
            court.due(90 - 9 * model, "open").due(model, "model", 1 << model);
        }
        court.due(0, "open");
    }

    // ---- least, leastAnew

    private static void leastIs(Trial court, int due, int goal, int pool) {
        for (String call : BOTH_LEAST) {
            court.due(due, call, goal, pool);
        }
    }

    private static void fewest() {
        Trial.sentence("The LEAST set ... is that of the fewest PRINCIPLES of the pool"
                + " that PROVES the goal");
        Trial court = Trial.ofNew().principles(10).due(0, "rule", 3, 9).due(1, "rule", 256, 9);
        leastIs(court, 256, 9, ALL);
        leastIs(court, 512, 9, ALL - 256);
        leastIs(court, 256, 9, 511);
        leastIs(court, 3, 9, 255);
        court = Trial.ofNew().principles(10).due(0, "rule", 7, 9).due(1, "rule", 384, 9);
        leastIs(court, 384, 9, 511);
        leastIs(court, 7, 9, 255);
        court.due(2, "rule", 1, 1).due(3, "rule", 2, 2);
        leastIs(court, 1, 9, 511);
        leastIs(court, 384, 9, 510);
    }

    private static void lowestOfSeveral() {
        Trial.sentence("of several the lowest as bits");
        Trial court = Trial.ofNew().principles(10);
        for (int rule = 0; rule < 9; rule++) {
            court.due(rule, "rule", 1 << 8 - rule, 9);
        }
        for (int lowest = 0; lowest < 9; lowest++) {
            leastIs(court, 1 << lowest, 9, ALL & -(1 << lowest));
        }
        leastIs(court, 512, 9, 512);
        court = Trial.ofNew().principles(10).due(0, "rule", 24, 9).due(1, "rule", 17, 9);
        court.due(2, "rule", 6, 9).due(3, "rule", 257, 9);
        leastIs(court, 6, 9, 511);
        leastIs(court, 17, 9, 509);
        leastIs(court, 24, 9, 508);
        leastIs(court, 257, 9, 257);
    }

    private static void ofThePool() {
        Trial.sentence("of the pool");
        Trial court = Trial.ofNew().principles(10);
        for (int number = 0; number < 10; number++) {
            leastIs(court, 1 << number, number, ALL);
            leastIs(court, 1 << number, number, 1 << number);
            leastIs(court, Trial.NONE, number, ALL - (1 << number));
        }
    }

    private static void emptyLeast() {
        Trial.sentence("the fewest PRINCIPLES: none, if the empty set PROVES the goal");
        Trial court = Trial.ofNew().principles(3).due(0, "rule", 0, 1).due(1, "rule", 2, 2);
        for (int pool = 0; pool < 8; pool++) {
            leastIs(court, 0, 1, pool);
            leastIs(court, 0, 2, pool);
            leastIs(court, pool % 2 == 1 ? 1 : Trial.NONE, 0, pool);
        }
    }

    private static void wholePools() {
        Trial.sentence("the LEAST set can be the whole pool, of one up to nine PRINCIPLES");
        for (int howMany = 1; howMany <= 9; howMany++) {
            int pool = (1 << howMany) - 1;
            Trial court = Trial.ofNew().principles(10).due(0, "rule", pool, 9);
            leastIs(court, pool, 9, pool);
            leastIs(court, pool, 9, 511);
            leastIs(court, Trial.NONE, 9, 511 - 1);
            leastIs(court, Trial.NONE, 9, 511 - (1 << howMany - 1));
        }
    }

    private static void poolProvesNot() {
        Trial.sentence("Promises 16, 17: NONE if the pool does not PROVE the goal");
        Trial court = Trial.ofNew().principles(1);
        leastIs(court, Trial.NONE, 0, 0);
        leastIs(court, 1, 0, 1);
        court.principles(9).due(0, "rule", 511, 9);
        leastIs(court, Trial.NONE, 9, 0);
        leastIs(court, Trial.NONE, 9, 510);
        leastIs(court, Trial.NONE, 9, 255);
        leastIs(court, Trial.NONE, 0, 1022);
    }

    private static void leastOfNone() {
        Trial.sentence("Promises 16, 17: Throws IndexOutOfBoundsException if there is no such"
                + " PRINCIPLE");
        for (int howMany : new int[] {0, 1, 9, 10}) {
            Trial court = Trial.ofNew().principles(howMany);
            for (int off : Edges.noneOf(howMany)) {
                for (String call : BOTH_LEAST) {
                    court.due(Trial.OUT_OF_BOUNDS, call, off, 0);
                    court.due(Trial.OUT_OF_BOUNDS, call, off, (1 << howMany) - 1);
                    court.due(Trial.OUT_OF_BOUNDS, call, off, 1 << howMany);
                    court.due(Trial.OUT_OF_BOUNDS, call, off, -1);
                }
            }
        }
    }

    private static void poolsOutOfRange() {
        Trial.sentence("Promises 16, 17: Throws IllegalArgumentException if pool is out of range");
        for (int howMany : new int[] {1, 2, 9, 10}) {
            Trial court = Trial.ofNew().principles(howMany);
            for (int off : Edges.noSets(howMany)) {
                for (String call : BOTH_LEAST) {
                    court.due(Trial.BAD_ARGUMENT, call, 0, off);
                    court.due(Trial.BAD_ARGUMENT, call, howMany - 1, off);
                }
            }
            leastIs(court, 1, 0, (1 << howMany) - 1);
        }
    }
}
