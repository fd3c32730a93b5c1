/** Promises 9 to 18: principle, rule, model, proves, proof, known, open, least, ofPrinciple. */
public final class PrincipleTest {
    private static final int MANY = Integer.MAX_VALUE;
    private static final int FEW = Integer.MIN_VALUE;

    private PrincipleTest() {
    }

    public static void main(String[] args) {
        principles();
        noPrinciples();
        tenPrinciples();
        rules();
        wrongRules();
        thirtyRules();
        models();
        tenModels();
        rulesAgainstModels();
        laterPrinciples();
        closures();
        proofs();
        proofsLeaveOut();
        wrongProofs();
        verdicts();
        wrongVerdicts();
        openPairs();
        leastSets();
        wrongLeastSets();
        tales();
        Trial.end();
    }

    private static void principles() {
        Trial court = Trial.ofNew();
        court.type("AxEyx<y").due(0, "principle").due(0, "blank").due(Trial.NONE, "sigma");
        court.due(0, "fault").type("axxx<x").due(Trial.BAD_STATE, "principle").due(6, "blank");
        court.type("AxExAxExAxExAxx=x").due(1, "principle");
        court.type("AxEyx<y").due(2, "principle");
        court.due(3, "ofPrinciple", 0, 0).due(2, "ofPrinciple", 0, 1);
        court.due(8, "ofPrinciple", 1, 0).due(7, "ofPrinciple", 1, 1);
        court.due(3, "ofPrinciple", 2, 0).due(2, "ofPrinciple", 2, 1);
        court.due(Trial.OUT_OF_BOUNDS, "ofPrinciple", 3, 0);
    }

    private static void noPrinciples() {
        for (String page : new String[] {"", "x", "Ax", "Axx=", "Axx=xx", "x=x", "Exx<y", "Axy=z",
            "(Axx=x&Exx=x", "Axaxxy=y", "Ayayyy<x", "axxx=x", "Axexzx=x"}) {
            Trial court = Trial.ofNew().type(page).due(Trial.BAD_STATE, "principle");
            court.due(Trial.OUT_OF_BOUNDS, "ofPrinciple", 0, 0).due(page.length(), "blank");
        }
    }

    private static void tenPrinciples() {
        Trial court = Trial.ofNew();
        for (int number = 0; number < 10; number++) {
            court.type("Exx=x").due(number, "principle");
        }
        court.type("Exx=x").due(Trial.BAD_STATE, "principle").due(5, "fault").due(1, "sigma");
        court.due(5, "blank").due(Trial.BAD_STATE, "principle");
        court.due(1, "ofPrinciple", 9, 0).due(Trial.OUT_OF_BOUNDS, "ofPrinciple", 10, 0);
        court.due(1023, "proves", 1023).due(Trial.BAD_ARGUMENT, "proves", 1024);
    }

    private static void rules() {
        Trial court = Trial.ofNew().principles(3);
        court.due(0, "rule", 0, 2).due(1, "rule", 3, 2).due(2, "rule", 3, 2);
        court.due(4, "proves", 0).due(5, "proves", 1);
        court.due(3, "ofPrinciple", 2, 2).due(0, "ofPrinciple", 0, 2);
    }

    private static void wrongRules() {
        Trial court = Trial.ofNew().principles(3);
        for (int conclusion : new int[] {-1, 3, MANY, FEW}) {
            court.due(Trial.OUT_OF_BOUNDS, "rule", 0, conclusion);
            court.due(Trial.OUT_OF_BOUNDS, "rule", 8, conclusion);
        }
        for (int premises : new int[] {-1, 8, 9, MANY, FEW, 4, 5, 7}) {
            court.due(Trial.BAD_ARGUMENT, "rule", premises, 2);
        }
        court.due(0, "rule", 3, 2);
    }

    private static void thirtyRules() {
        Trial court = Trial.ofNew().principles(2);
        for (int number = 0; number < 30; number++) {
            court.due(number, "rule", 1, 1);
        }
        court.due(Trial.BAD_STATE, "rule", 1, 1).due(Trial.BAD_STATE, "rule", 0, 0);
        court.due(Trial.BAD_ARGUMENT, "rule", 1, 0).due(Trial.OUT_OF_BOUNDS, "rule", 1, 2);
        court.due(30, "ofPrinciple", 1, 2).due(0, "proves", 0).due(3, "proves", 1);
    }

    private static void models() {
        Trial court = Trial.ofNew().principles(3);
        court.due(0, "rule", 3, 2);
        for (int set : new int[] {-1, 8, MANY, FEW}) {
            court.due(Trial.BAD_ARGUMENT, "model", set);
        }
        court.due(Trial.BAD_STATE, "model", 3).due(0, "model", 7).due(1, "model", 0);
        court.due(2, "model", 7).due(3, "model", 1).due(4, "model", 4);
        court.due(3, "ofPrinciple", 0, 3).due(2, "ofPrinciple", 1, 3).due(3, "ofPrinciple", 2, 3);
        Trial.ofNew().due(0, "model", 0).due(Trial.BAD_ARGUMENT, "model", 1);
        court = Trial.ofNew().principles(2);
        court.due(0, "rule", 0, 1).due(Trial.BAD_STATE, "model", 0);
        court.due(Trial.BAD_STATE, "model", 1).due(0, "model", 2);
    }

    private static void tenModels() {
        Trial court = Trial.ofNew().principles(1);
        for (int number = 0; number < 10; number++) {
            court.due(number, "model", 1);
        }
        court.due(Trial.BAD_STATE, "model", 1).due(Trial.BAD_STATE, "model", 0);
        court.due(Trial.BAD_ARGUMENT, "model", 2).due(10, "ofPrinciple", 0, 3);
        court.principles(1).due(ReversalCourt.OPEN, "known", 1, 0).due(1, "open");
        court.due(ReversalCourt.DOES_NOT, "known", 0, 1).due(0, "rule", 2, 0).due(0, "open");
    }

    private static void rulesAgainstModels() {
        Trial court = Trial.ofNew().principles(3);
        court.due(0, "model", 3).due(Trial.BAD_STATE, "rule", 0, 2);
        court.due(Trial.BAD_STATE, "rule", 1, 2).due(Trial.BAD_STATE, "rule", 3, 2);
        court.due(0, "rule", 4, 0).due(1, "rule", 0, 1).due(2, "rule", 1, 1);
        court.due(Trial.BAD_ARGUMENT, "rule", 4, 2).due(1, "model", 7);
        court.due(2, "model", 2).due(Trial.BAD_STATE, "rule", 0, 0);
        court.due(3, "rule", 5, 1).due(1, "ofPrinciple", 0, 2).due(3, "ofPrinciple", 1, 2);
    }

    private static void laterPrinciples() {
        Trial court = Trial.ofNew().principles(1);
        court.due(0, "model", 1).principles(1).due(Trial.BAD_STATE, "rule", 1, 1);
        court.due(Trial.BAD_STATE, "rule", 0, 1).due(0, "rule", 2, 0);
        court.due(0, "ofPrinciple", 1, 3).due(ReversalCourt.DOES_NOT, "known", 0, 1);
        court.due(ReversalCourt.IMPLIES, "known", 1, 0);
    }

    private static void closures() {
        Trial court = Trial.ofNew().principles(6);
        court.due(0, "rule", 24, 5).due(1, "rule", 4, 3).due(2, "rule", 2, 2);
        court.due(3, "rule", 1, 1).due(4, "rule", 0, 4);
        court.due(16, "proves", 0).due(63, "proves", 1).due(62, "proves", 2).due(60, "proves", 4);
        court.due(56, "proves", 8).due(16, "proves", 16).due(48, "proves", 32);
        court.due(63, "proves", 63);
        for (int set : new int[] {-1, 64, MANY, FEW}) {
            court.due(Trial.BAD_ARGUMENT, "proves", set);
        }
        court = Trial.ofNew().principles(10);
        for (int rule = 0; rule < 9; rule++) {
            court.due(rule, "rule", 1 << rule + 1, rule);
        }
        court.due(1023, "proves", 512).due(0, "proves", 0).due(31, "proves", 16);
    }

    private static void proofIs(Trial court, int set, int goal, int... rules) {
        for (int at = 0; at < rules.length; at++) {
            court.due(rules[at], "proof", set, goal, at);
        }
        court.due(Trial.NONE, "proof", set, goal, rules.length);
        court.due(Trial.NONE, "proof", set, goal, MANY);
    }

    private static void proofs() {
        Trial court = Trial.ofNew().principles(4);
        court.due(0, "rule", 4, 3).due(1, "rule", 1, 1).due(2, "rule", 2, 2);
        proofIs(court, 1, 3, 1, 2, 0);
        proofIs(court, 1, 2, 1, 2);
        proofIs(court, 1, 1, 1);
        proofIs(court, 1, 0);
        proofIs(court, 2, 3, 2, 0);
        proofIs(court, 4, 3, 0);
        proofIs(court, 15, 3);
        proofIs(court, 0, 3);
        proofIs(court, 8, 0);
        court = Trial.ofNew().principles(2);
        court.due(0, "rule", 1, 1).due(1, "rule", 0, 1).due(2, "rule", 1, 1);
        proofIs(court, 0, 1, 1);
        proofIs(court, 1, 1, 0);
        proofIs(court, 2, 1);
        proofIs(court, 2, 0);
    }

    private static void proofsLeaveOut() {
        Trial court = Trial.ofNew().principles(6);
        court.due(0, "rule", 1, 1).due(1, "rule", 1, 2).due(2, "rule", 2, 3);
        court.due(3, "rule", 4, 4).due(4, "rule", 24, 5).due(5, "rule", 16, 5);
        proofIs(court, 1, 5, 0, 1, 2, 3, 4);
        proofIs(court, 1, 4, 1, 3);
        proofIs(court, 1, 3, 0, 2);
        proofIs(court, 4, 5, 3, 5);
        proofIs(court, 20, 5, 5);
        proofIs(court, 5, 4, 3);
        proofIs(court, 2, 4);
        court = Trial.ofNew().principles(10);
        for (int rule = 0; rule < 9; rule++) {
            court.due(rule, "rule", (1 << 9 - rule) - 1 << rule + 1, rule);
        }
        proofIs(court, 512, 0, 8, 7, 6, 5, 4, 3, 2, 1, 0);
        court = Trial.ofNew().principles(10);
        for (int rule = 0; rule < 10; rule++) {
            court.due(rule, "rule", 0, rule);
        }
        proofIs(court, 0, 9, 9);
        court.due(10, "rule", 1023 - 512, 9);
        proofIs(court, 0, 8, 8);
        court = Trial.ofNew().principles(10);
        court.due(0, "rule", 511, 9);
        for (int rule = 1; rule < 10; rule++) {
            court.due(rule, "rule", 0, rule - 1);
        }
        proofIs(court, 0, 9, 1, 2, 3, 4, 5, 6, 7, 8, 9, 0);
    }

    private static void wrongProofs() {
        Trial court = Trial.ofNew().principles(3);
        court.due(0, "rule", 1, 2);
        for (int off : new int[] {-1, 3, MANY, FEW}) {
            court.due(Trial.OUT_OF_BOUNDS, "proof", 1, off, 0);
            court.due(Trial.OUT_OF_BOUNDS, "proof", 8, off, 0);
        }
        court.due(Trial.OUT_OF_BOUNDS, "proof", 1, 2, -1);
        court.due(Trial.OUT_OF_BOUNDS, "proof", 8, 2, -1);
        court.due(Trial.OUT_OF_BOUNDS, "proof", 1, 2, FEW);
        for (int set : new int[] {-1, 8, MANY, FEW}) {
            court.due(Trial.BAD_ARGUMENT, "proof", set, 2, 0);
        }
        court.due(0, "proof", 1, 2, 0);
    }

    private static void verdicts() {
        int implies = ReversalCourt.IMPLIES;
        int doesNot = ReversalCourt.DOES_NOT;
        int open = ReversalCourt.OPEN;
        Trial court = Trial.ofNew().principles(4);
        court.due(0, "rule", 1, 1).due(1, "rule", 2, 2).due(2, "rule", 6, 3).due(0, "model", 12);
        court.due(implies, "known", 0, 1).due(implies, "known", 0, 3).due(implies, "known", 1, 3);
        court.due(doesNot, "known", 2, 0).due(doesNot, "known", 2, 1).due(open, "known", 2, 3);
        court.due(doesNot, "known", 3, 0).due(doesNot, "known", 3, 1).due(open, "known", 3, 2);
        court.due(open, "known", 1, 0).due(1, "model", 8).due(doesNot, "known", 3, 2);
        court.due(2, "model", 14).due(doesNot, "known", 1, 0).due(open, "known", 2, 3);
        court = Trial.ofNew().principles(2).due(0, "rule", 0, 1);
        court.due(implies, "known", 0, 1).due(open, "known", 1, 0);
    }

    private static void wrongVerdicts() {
        Trial court = Trial.ofNew().principles(2);
        for (int off : new int[] {-1, 2, MANY, FEW}) {
            court.due(Trial.OUT_OF_BOUNDS, "known", off, 0);
            court.due(Trial.OUT_OF_BOUNDS, "known", 1, off);
            court.due(Trial.OUT_OF_BOUNDS, "known", off, off);
        }
        court.due(Trial.BAD_ARGUMENT, "known", 0, 0).due(Trial.BAD_ARGUMENT, "known", 1, 1);
    }

    private static void openPairs() {
        Trial court = Trial.ofNew().due(0, "open").principles(1).due(0, "open");
        court.principles(1).due(2, "open").principles(1).due(6, "open");
        court.due(0, "rule", 1, 1).due(5, "open").due(1, "rule", 2, 2).due(3, "open");
        court.due(0, "model", 4).due(1, "open").due(1, "model", 6).due(0, "open");
        court.principles(7).due(70, "open").due(2, "model", 1016).due(49, "open");
    }

    private static void leastIs(Trial court, int due, int goal, int pool) {
        court.due(due, "least", goal, pool).due(due, "leastAnew", goal, pool);
    }

    private static void leastSets() {
        Trial court = Trial.ofNew().principles(6);
        court.due(0, "rule", 3, 5).due(1, "rule", 12, 5).due(2, "rule", 16, 3);
        court.due(3, "rule", 20, 0);
        leastIs(court, 32, 5, 63);
        leastIs(court, 3, 5, 31);
        leastIs(court, 12, 5, 30);
        leastIs(court, 20, 5, 22);
        leastIs(court, 12, 5, 29);
        leastIs(court, Trial.NONE, 5, 11 & ~1);
        leastIs(court, Trial.NONE, 5, 0);
        leastIs(court, 1, 0, 63);
        leastIs(court, 20, 0, 62);
        leastIs(court, 8, 3, 63);
        leastIs(court, 16, 3, 55);
        leastIs(court, Trial.NONE, 3, 39);
        court.due(4, "rule", 0, 1);
        leastIs(court, 0, 1, 63);
        leastIs(court, 0, 1, 0);
        leastIs(court, 1, 5, 31);
        court = Trial.ofNew().principles(10).due(0, "rule", 511, 9);
        leastIs(court, 511, 9, 511);
        leastIs(court, 512, 9, 1023);
        leastIs(court, Trial.NONE, 9, 510);
        leastIs(court, 256, 8, 1023);
    }

    private static void wrongLeastSets() {
        Trial court = Trial.ofNew().principles(3);
        for (String call : new String[] {"least", "leastAnew"}) {
            for (int off : new int[] {-1, 3, MANY, FEW}) {
                court.due(Trial.OUT_OF_BOUNDS, call, off, 0);
                court.due(Trial.OUT_OF_BOUNDS, call, off, 8);
            }
            for (int pool : new int[] {-1, 8, MANY, FEW}) {
                court.due(Trial.BAD_ARGUMENT, call, 0, pool);
            }
            court.due(4, call, 2, 7);
        }
    }

    private static void tales() {
        Trial court = Trial.ofNew().principle("ExAyx<y").principle("Axx=x").principle("Exx=x");
        int[] sigmas = {2, 2, 1};
        int[] pis = {3, 1, 2};
        court.due(0, "rule", 1, 1).due(1, "rule", 4, 1).due(2, "rule", 1, 2);
        court.due(0, "model", 6).due(1, "model", 7).due(2, "model", 2);
        int[] rules = {0, 2, 1};
        int[] models = {1, 3, 2};
        for (int number = 0; number < 3; number++) {
            court.due(sigmas[number], "ofPrinciple", number, 0);
            court.due(pis[number], "ofPrinciple", number, 1);
            court.due(rules[number], "ofPrinciple", number, 2);
            court.due(models[number], "ofPrinciple", number, 3);
            for (int what : new int[] {-1, 4, MANY, FEW}) {
                court.due(Trial.BAD_ARGUMENT, "ofPrinciple", number, what);
            }
        }
        for (int off : new int[] {-1, 3, MANY, FEW}) {
            court.due(Trial.OUT_OF_BOUNDS, "ofPrinciple", off, 0);
            court.due(Trial.OUT_OF_BOUNDS, "ofPrinciple", off, 4);
        }
    }
}
