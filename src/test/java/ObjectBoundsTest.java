/** The sentences on an object as a whole that name a boundary case, and promise 1. */
public final class ObjectBoundsTest {
    private ObjectBoundsTest() {
    }

    public static void main(String[] args) {
        lastCall();
        emptyPage();
        noPrinciples();
        noRules();
        noModels();
        noProblems();
        constants();
        Trial.end();
    }

    /** Asks the same until one call is left, with the answer that is due each time. */
    private static Trial worn(Trial court, Object due, String call, Object... arguments) {
        while (court.calls() < Trial.MOST_CALLS - 1) {
            court.due(due, call, arguments);
        }
        return court;
    }

    private static void lastCall() {
        Trial.sentence("An object is used for at most 512 calls after it has been made");
        worn(Trial.ofNew(), 0, "blank").due(1, "letter", 'x');
        typedToTheLastCall();
        worn(Trial.ofNew().type("!".repeat(40)), Trial.BAD_STATE, "letter", '!').due(40, "blank");
        worn(Trial.ofNew().type("AxAyAzExEyEz" + "!".repeat(25) + "x<y"), true,
                "isSo", 5, 4, 4, 4).due(40, "fault");
        worn(Trial.ofNew().principles(2), Trial.BAD_ARGUMENT, "rule", 1, 0).due(0, "rule", 1, 1);
        worn(Trial.ofNew().principles(10), 512, "leastAnew", 9, 1023).due(90, "open");
        worn(Trial.ofNew().due(0, "problem", 4, 4, 0x8421), 27, "reducesAnew", 0, 0)
                .due(3, "forth", 0, 0, 0);
        worn(Trial.ofNew(), false, "hasAnew", 4, 0).due(true, "has", 4, 65535);
    }

    private static void typedToTheLastCall() {
        Trial court = Trial.ofNew();
        for (int page = 0; page < 84; page++) {
            court.type("AxEx!").due(5, "blank");
        }
        court.type("Exx=x").due(1, "sigma").due(2, "pi").due(0, "principle");
        Trial.check(Trial.MOST_CALLS, court.calls(), "calls of the object");
    }

    private static void emptyPage() {
        Trial.sentence("The PAGE is empty");
        Trial.ofNew().due(0, "blank");
        Trial.ofNew().due(0, "fault");
        Trial.ofNew().due(1, "letter", '!');
        for (String call : new String[] {"sigma", "pi", "free"}) {
            Trial.ofNew().due(Trial.NONE, call);
        }
        Trial.ofNew().due(Trial.BAD_STATE, "isSo", 1, 0, 0, 0);
        Trial.ofNew().due(Trial.BAD_STATE, "principle");
    }

    private static void noPrinciples() {
        Trial.sentence("no PRINCIPLES");
        Trial.ofNew().due(Trial.OUT_OF_BOUNDS, "rule", 0, 0);
        Trial.ofNew().due(Trial.BAD_ARGUMENT, "model", 1);
        Trial.ofNew().due(Trial.BAD_ARGUMENT, "proves", 1).due(0, "proves", 0);
        Trial.ofNew().due(Trial.OUT_OF_BOUNDS, "proof", 0, 0, 0);
        Trial.ofNew().due(Trial.OUT_OF_BOUNDS, "known", 0, 1);
        Trial.ofNew().due(0, "open");
        Trial.ofNew().due(Trial.OUT_OF_BOUNDS, "least", 0, 0);
        Trial.ofNew().due(Trial.OUT_OF_BOUNDS, "leastAnew", 0, 0);
        Trial.ofNew().due(Trial.OUT_OF_BOUNDS, "ofPrinciple", 0, 0);
        Trial.ofNew().type("Axx=x").due(0, "principle");
    }

    private static void noRules() {
        Trial.sentence("no RULES");
        Trial court = Trial.ofNew().principles(10);
        for (int number = 0; number < 10; number++) {
            court.due(0, "ofPrinciple", number, 2).due(1 << number, "proves", 1 << number);
        }
        court.due(0, "proves", 0).due(0, "rule", 0, 9);
    }

    private static void noModels() {
        Trial.sentence("no MODELS");
        Trial court = Trial.ofNew().principles(10);
        for (int number = 0; number < 10; number++) {
            court.due(0, "ofPrinciple", number, 3).due(number, "rule", 0, number);
        }
        court.due(0, "model", 1023);
        Trial.ofNew().due(0, "model", 0);
    }

    private static void noProblems() {
        Trial.sentence("no PROBLEMS");
        Trial.ofNew().due(Trial.OUT_OF_BOUNDS, "product", 0, 0);
        Trial.ofNew().due(Trial.OUT_OF_BOUNDS, "reduces", 0, 0);
        Trial.ofNew().due(Trial.OUT_OF_BOUNDS, "reducesAnew", 0, 0);
        Trial.ofNew().due(Trial.OUT_OF_BOUNDS, "forth", 0, 0, 0);
        for (int what = 0; what < 3; what++) {
            Trial.ofNew().due(Trial.OUT_OF_BOUNDS, "ofProblem", 0, what);
        }
        Trial.ofNew().due(0, "problem", 1, 1, 1);
    }

    private static void constants() {
        Trial.sentence("NONE = -1: There is none. DOES_NOT = -1, OPEN = 0, IMPLIES = 1");
        Trial.check(-1, ReversalCourt.NONE, "NONE");
        Trial.check(-1, ReversalCourt.DOES_NOT, "DOES_NOT");
        Trial.check(0, ReversalCourt.OPEN, "OPEN");
        Trial.check(1, ReversalCourt.IMPLIES, "IMPLIES");
    }
}
