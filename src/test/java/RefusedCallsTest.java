import java.util.ArrayList;
import java.util.List;

/**
 * Refused calls, one by one, on an object that is new, one half filled and one that is full: each
 * throws what is due, and then the object answers all as one does that was not asked.
 */
public final class RefusedCallsTest {
    private static final int NEW = 0;
    private static final int HALF = 1;
    private static final int FULL = 2;
    private static final String OUT = Trial.OUT_OF_BOUNDS;
    private static final String ARGUMENT = Trial.BAD_ARGUMENT;
    private static final String STATE = Trial.BAD_STATE;

    /** What the untouched objects answer, made once. */
    private static final List<List<Object>> UNTOUCHED = List.of(
            answers(made(NEW)), answers(made(HALF)), answers(made(FULL)));

    private RefusedCallsTest() {
    }

    public static void main(String[] args) {
        Trial.sentence("A call that throws an exception changes nothing: calls on a new object");
        refusedByNew();
        Trial.sentence("A call that throws an exception changes nothing: calls on a half filled"
                + " object");
        refusedByHalf();
        Trial.sentence("A call that throws an exception changes nothing: calls on a full object");
        refusedByFull();
        Trial.sentence("If several exceptions apply, the one that is named first in the throws"
                + " clause is thrown.");
        severalOfHalf();
        severalOfFull();
        Trial.end();
    }

    private static Trial made(int state) {
        return state == NEW ? Trial.ofNew() : state == HALF ? half() : full();
    }

    /** Four principles, two rules, two models, three problems, and a formula with y and z free. */
    private static Trial half() {
        Trial court = Trial.ofNew();
        court.principle("AxEyx<y").principle("ExAyx<y").principle("Axx=x").principle("Exx=x");
        court.due(0, "rule", 1, 1).due(1, "rule", 6, 3).due(0, "model", 14).due(1, "model", 2);
        court.due(0, "problem", 2, 2, 33).due(1, "problem", 2, 3, 0x24);
        court.due(2, "problem", 3, 1, 273);
        return court.type("axyx<z");
    }

    /** All there can be of everything; the page is a closed formula of 40 letters. */
    private static Trial full() {
        Trial court = Trial.ofNew().principles(10);
        for (int number = 0; number < 30; number++) {
            court.due(number, "rule", 3, 2 + number % 4);
        }
        for (int number = 0; number < 10; number++) {
            court.due(number, "model", 1 << number);
        }
        for (int number = 0; number < 6; number++) {
            court.due(number, "problem", 1 + number % 2, 2, number % 2 == 0 ? 2 : 33);
        }
        return court.type("AxExAxExAxExAx" + "!".repeat(23) + "x=x");
    }

    private static void refused(int state, String due, String call, Object... arguments) {
        Trial court = made(state);
        court.due(due, call, arguments);
        Trial.check(UNTOUCHED.get(state), answers(court),
                "what follows " + Trial.text(call, arguments) + " in the state " + state);
    }

    /** What an object tells of itself, and the numbers that it gives to what comes next. */
    private static List<Object> answers(Trial court) {
        List<Object> answers = new ArrayList<>();
        for (String call : new String[] {"fault", "sigma", "pi", "free", "open"}) {
            answers.add(court.ask(call));
        }
        answers.add(court.ask("isSo", 5, 0, 2, 1));
        answers.add(court.ask("isSo", 5, 4, 0, 3));
        ofPrinciples(court, answers);
        ofProblems(court, answers);
        next(court, answers);
        return answers;
    }

    private static void ofPrinciples(Trial court, List<Object> answers) {
        answers.add(court.ask("proves", 0));
        for (int one = 0; one < 10; one++) {
            for (int what = 0; what < 4; what++) {
                answers.add(court.ask("ofPrinciple", one, what));
            }
            answers.add(court.ask("proves", 1 << one));
            answers.add(court.ask("proves", (2 << one) - 1));
            answers.add(court.ask("known", one, (one + 1) % 10));
            answers.add(court.ask("known", one, (one + 9) % 10));
            answers.add(court.ask("least", one, one < 4 ? 15 - (1 << one) : 3));
        }
        for (int at = 0; at < 4; at++) {
            answers.add(court.ask("proof", 5, 3, at));
            answers.add(court.ask("proof", 3, 5, at));
        }
    }

    private static void ofProblems(Trial court, List<Object> answers) {
        for (int one = 0; one < 6; one++) {
            for (int what = 0; what < 3; what++) {
                answers.add(court.ask("ofProblem", one, what));
            }
            answers.add(court.ask("reduces", one, (one + 1) % 6));
            answers.add(court.ask("forth", one, (one + 2) % 6, 0));
        }
    }

    private static void next(Trial court, List<Object> answers) {
        answers.add(court.ask("letter", 'x'));
        answers.add(court.ask("model", 0));
        answers.add(court.ask("model", 2));
        answers.add(court.ask("rule", 14, 0));
        answers.add(court.ask("problem", 1, 1, 1));
        answers.add(court.ask("product", 0, 0));
        answers.add(court.ask("blank"));
        court.type("Exx=x");
        answers.add(court.ask("principle"));
        answers.add(court.ask("blank"));
    }

    private static void refusedByNew() {
        refused(NEW, ARGUMENT, "letter", 'B');
        refused(NEW, STATE, "isSo", 1, 0, 0, 0);
        refused(NEW, ARGUMENT, "isSo", 0, 0, 0, 0);
        refused(NEW, ARGUMENT, "isSo", 1, 1, 0, 0);
        refused(NEW, STATE, "principle");
        refused(NEW, OUT, "rule", 0, 0);
        refused(NEW, ARGUMENT, "model", 1);
        refused(NEW, ARGUMENT, "proves", 1);
        refused(NEW, OUT, "proof", 0, 0, 0);
        refused(NEW, OUT, "known", 0, 1);
        refused(NEW, OUT, "least", 0, 0);
        refused(NEW, OUT, "leastAnew", 0, 0);
        refused(NEW, OUT, "ofPrinciple", 0, 0);
        refused(NEW, ARGUMENT, "problem", 0, 1, 1);
        refused(NEW, ARGUMENT, "problem", 1, 5, 1);
        refused(NEW, ARGUMENT, "problem", 1, 1, 3);
        refused(NEW, ARGUMENT, "problem", 2, 1, 1);
        refused(NEW, OUT, "product", 0, 0);
        refused(NEW, OUT, "reduces", 0, 0);
        refused(NEW, OUT, "reducesAnew", 0, 0);
        refused(NEW, OUT, "forth", 0, 0, 0);
        refused(NEW, OUT, "ofProblem", 0, 0);
        refused(NEW, ARGUMENT, "has", 0, 0);
        refused(NEW, ARGUMENT, "has", 1, 4);
        refused(NEW, ARGUMENT, "hasAnew", 5, 0);
        refused(NEW, ARGUMENT, "hasAnew", 4, 65536);
    }

    private static void refusedByHalf() {
        refused(HALF, ARGUMENT, "letter", 'w');
        refused(HALF, ARGUMENT, "letter", '\u0000');
        refused(HALF, ARGUMENT, "isSo", 6, 0, 0, 0);
        refused(HALF, ARGUMENT, "isSo", 2, 2, 0, 0);
        refused(HALF, ARGUMENT, "isSo", 2, 0, -1, 0);
        refused(HALF, ARGUMENT, "isSo", 2, 0, 0, 2);
        refused(HALF, STATE, "principle");
        refused(HALF, OUT, "rule", 0, 4);
        refused(HALF, OUT, "rule", 0, -1);
        refused(HALF, ARGUMENT, "rule", 16, 0);
        refused(HALF, ARGUMENT, "rule", -1, 0);
        refused(HALF, ARGUMENT, "rule", 9, 0);
        refused(HALF, STATE, "rule", 14, 0);
        refused(HALF, STATE, "rule", 0, 2);
        refused(HALF, STATE, "rule", 2, 3);
        refused(HALF, ARGUMENT, "model", 16);
        refused(HALF, ARGUMENT, "model", -1);
        refused(HALF, STATE, "model", 1);
        refused(HALF, STATE, "model", 6);
        refused(HALF, STATE, "model", 7);
        refused(HALF, ARGUMENT, "proves", 16);
        refused(HALF, ARGUMENT, "proves", Edges.LOWEST);
        refused(HALF, OUT, "proof", 0, 4, 0);
        refused(HALF, OUT, "proof", 0, 3, -1);
        refused(HALF, ARGUMENT, "proof", 16, 3, 0);
        refused(HALF, OUT, "known", 4, 0);
        refused(HALF, OUT, "known", 0, -1);
        refused(HALF, ARGUMENT, "known", 3, 3);
        for (String call : new String[] {"least", "leastAnew"}) {
            refused(HALF, OUT, call, 4, 0);
            refused(HALF, ARGUMENT, call, 3, 16);
            refused(HALF, ARGUMENT, call, 3, -1);
        }
        refused(HALF, OUT, "ofPrinciple", 4, 0);
        refused(HALF, ARGUMENT, "ofPrinciple", 3, 4);
        problemsRefusedByHalf();
    }

    private static void problemsRefusedByHalf() {
        refused(HALF, ARGUMENT, "problem", 5, 1, 0x11111);
        refused(HALF, ARGUMENT, "problem", 4, 0, 0);
        refused(HALF, ARGUMENT, "problem", 2, 2, 0x41);
        refused(HALF, ARGUMENT, "problem", 2, 2, 0x30);
        refused(HALF, OUT, "product", 3, 0);
        refused(HALF, OUT, "product", 0, -1);
        refused(HALF, STATE, "product", 0, 1);
        refused(HALF, STATE, "product", 0, 2);
        refused(HALF, STATE, "product", 2, 2);
        for (String call : new String[] {"reduces", "reducesAnew"}) {
            refused(HALF, OUT, call, 3, 0);
            refused(HALF, OUT, call, 0, 3);
        }
        refused(HALF, OUT, "forth", 3, 0, 0);
        refused(HALF, OUT, "forth", 0, 3, 0);
        refused(HALF, OUT, "forth", 0, 2, 2);
        refused(HALF, OUT, "forth", 0, 2, -1);
        refused(HALF, OUT, "ofProblem", 3, 0);
        refused(HALF, ARGUMENT, "ofProblem", 2, 3);
        for (String call : new String[] {"has", "hasAnew"}) {
            refused(HALF, ARGUMENT, call, 5, 0);
            refused(HALF, ARGUMENT, call, 3, 256);
            refused(HALF, ARGUMENT, call, 3, -1);
        }
    }

    private static void refusedByFull() {
        refused(FULL, STATE, "letter", 'x');
        refused(FULL, STATE, "letter", '!');
        refused(FULL, ARGUMENT, "letter", 'B');
        refused(FULL, STATE, "isSo", 1, 0, 0, 0);
        refused(FULL, ARGUMENT, "isSo", 1, 1, 0, 0);
        refused(FULL, STATE, "principle");
        refused(FULL, STATE, "rule", 3, 2);
        refused(FULL, STATE, "rule", 1, 1);
        refused(FULL, OUT, "rule", 0, 10);
        refused(FULL, ARGUMENT, "rule", 1024, 0);
        refused(FULL, STATE, "model", 0);
        refused(FULL, STATE, "model", 3);
        refused(FULL, ARGUMENT, "model", 1024);
        refused(FULL, ARGUMENT, "proves", 1024);
        refused(FULL, OUT, "proof", 1023, 10, 0);
        refused(FULL, ARGUMENT, "proof", 1024, 9, 0);
        refused(FULL, OUT, "known", 9, 10);
        refused(FULL, ARGUMENT, "known", 9, 9);
        refused(FULL, OUT, "least", 10, 0);
        refused(FULL, ARGUMENT, "leastAnew", 9, 1024);
        refused(FULL, OUT, "ofPrinciple", 10, 3);
        refused(FULL, ARGUMENT, "ofPrinciple", 9, 4);
        refused(FULL, STATE, "problem", 1, 1, 1);
        refused(FULL, ARGUMENT, "problem", 1, 1, 2);
        refused(FULL, STATE, "product", 0, 0);
        refused(FULL, OUT, "product", 0, 6);
        refused(FULL, OUT, "reduces", 6, 0);
        refused(FULL, OUT, "reducesAnew", 5, 6);
        refused(FULL, OUT, "forth", 5, 0, 2);
        refused(FULL, OUT, "forth", 6, 0, 0);
        refused(FULL, OUT, "ofProblem", 6, 2);
        refused(FULL, ARGUMENT, "ofProblem", 5, 3);
    }

    /** Each has two or more reasons to be refused. */
    private static void severalOfHalf() {
        refused(HALF, OUT, "rule", 16, 4);
        refused(HALF, OUT, "rule", -1, -1);
        refused(HALF, OUT, "rule", Edges.LOWEST, Edges.LOWEST);
        refused(HALF, ARGUMENT, "rule", 16 + 14, 0);
        refused(HALF, ARGUMENT, "model", 16 + 1);
        refused(HALF, ARGUMENT, "model", Edges.LOWEST + 1);
        refused(HALF, OUT, "proof", 16, 4, 0);
        refused(HALF, OUT, "proof", 16, 3, -1);
        refused(HALF, OUT, "proof", -1, -1, -1);
        refused(HALF, OUT, "known", 4, 4);
        refused(HALF, OUT, "known", -1, -1);
        refused(HALF, OUT, "least", 4, 16);
        refused(HALF, OUT, "leastAnew", -1, -1);
        refused(HALF, OUT, "ofPrinciple", 4, 4);
        refused(HALF, OUT, "ofPrinciple", -1, -1);
        refused(HALF, OUT, "ofProblem", 3, 3);
        refused(HALF, OUT, "ofProblem", -1, -1);
        refused(HALF, OUT, "product", 3, 2);
        refused(HALF, OUT, "product", 2, 3);
        refused(HALF, OUT, "forth", 3, 3, 9);
    }

    private static void severalOfFull() {
        for (char letter : new char[] {'B', 'w', '{', ' ', '\u0000', '\uffff'}) {
            refused(FULL, ARGUMENT, "letter", letter);
        }
        refused(FULL, ARGUMENT, "isSo", 6, 0, 0, 0);
        refused(FULL, ARGUMENT, "isSo", 5, 5, 0, 0);
        refused(FULL, ARGUMENT, "isSo", 5, 0, 5, 0);
        refused(FULL, ARGUMENT, "isSo", 5, 0, 0, -1);
        refused(NEW, ARGUMENT, "isSo", 5, 0, -1, 0);
        refused(FULL, OUT, "rule", 3, 10);
        refused(FULL, OUT, "rule", 1024, 10);
        refused(FULL, ARGUMENT, "rule", 1024, 9);
        refused(FULL, ARGUMENT, "rule", 3, 1);
        refused(FULL, ARGUMENT, "rule", 1023, 9);
        refused(FULL, ARGUMENT, "model", 1024);
        refused(FULL, ARGUMENT, "model", -1);
        refused(FULL, ARGUMENT, "model", 1024 + 3);
        refused(FULL, ARGUMENT, "problem", 0, 1, 1);
        refused(FULL, ARGUMENT, "problem", 1, 5, 1);
        refused(FULL, ARGUMENT, "problem", 1, 1, 0);
        refused(FULL, ARGUMENT, "problem", 4, 4, 0x0fff);
        refused(FULL, OUT, "product", 6, 0);
        refused(FULL, OUT, "product", 5, -1);
        refused(FULL, OUT, "product", 6, 6);
        refused(FULL, OUT, "known", 10, 10);
        refused(FULL, OUT, "least", 10, 1024);
        refused(FULL, OUT, "leastAnew", 10, 1024);
        refused(FULL, OUT, "proof", 1024, 10, -1);
        refused(FULL, OUT, "ofPrinciple", 10, 4);
        refused(FULL, OUT, "ofProblem", 6, 3);
    }
}
