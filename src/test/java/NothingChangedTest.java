/**
 * A call that throws changes nothing: of two objects made alike, one is asked all that throws, and
 * then both have to answer the same.
 */
public final class NothingChangedTest {
    private static final int MANY = Integer.MAX_VALUE;

    private NothingChangedTest() {
    }

    public static void main(String[] args) {
        emptyObject();
        halfFilled();
        filled();
        Trial.end();
    }

    private static void emptyObject() {
        Trial court = Trial.ofNew();
        refuseArguments(court);
        refused(court, "isSo", 1, 0, 0, 0);
        refused(court, "principle");
        alike(Trial.ofNew(), court, 0, 0);
    }

    private static Trial half() {
        Trial court = Trial.ofNew();
        court.principle("AxEyx<y").principle("ExAyx<y").principle("Axx=x").principle("Exx=x");
        court.due(0, "rule", 1, 1).due(1, "rule", 6, 3).due(0, "model", 14).due(1, "model", 2);
        court.due(0, "problem", 2, 2, 33).due(1, "problem", 2, 3, 0x24);
        court.due(2, "problem", 3, 1, 273);
        return court.type("axyx<z");
    }

    private static void halfFilled() {
        Trial court = half();
        refuseArguments(court);
        refused(court, "isSo", 2, 0, 2, 0);
        refused(court, "principle");
        refused(court, "rule", 2, 0);
        refused(court, "rule", 0, 0);
        refused(court, "rule", 4, 2);
        refused(court, "model", 1);
        refused(court, "model", 6);
        refused(court, "product", 0, 1);
        refused(court, "product", 2, 2);
        refused(court, "known", 1, 1);
        alike(half(), court, 4, 3);
    }

    /** All there can be of everything. */
    private static Trial full() {
        Trial court = Trial.ofNew().principles(10);
        for (int number = 0; number < 30; number++) {
            court.due(number, "rule", 3, 2 + number % 4);
        }
        for (int number = 0; number < 10; number++) {
            court.due(number, "model", 1 << number);
        }
        for (int number = 0; number < 6; number++) {
            court.due(number, "problem", 1 + number % 2, 2, number % 2 == 0 ? 2 : 33);
        }
        return court.type("AxExAxExAxExAx" + "!".repeat(23) + "x=x");
    }

    private static void filled() {
        Trial court = full();
        refuseArguments(court);
        refused(court, "letter", 'x');
        refused(court, "isSo", 1, 0, 0, 0);
        refused(court, "principle");
        refused(court, "rule", 3, 2);
        refused(court, "model", 0);
        refused(court, "problem", 1, 1, 1);
        refused(court, "product", 0, 0);
        alike(full(), court, 10, 6);
    }

    /** Arguments that are wrong in every state. */
    private static void refuseArguments(Trial court) {
        refused(court, "letter", 'B');
        refused(court, "isSo", 6, 0, 0, 0);
        refused(court, "rule", 0, 10);
        refused(court, "rule", 1024, 0);
        refused(court, "model", 1024);
        refused(court, "proves", -1);
        refused(court, "proof", 0, 10, 0);
        refused(court, "proof", 0, 0, -1);
        refused(court, "proof", -1, 0, 0);
        refused(court, "known", 0, -1);
        refused(court, "least", 10, 0);
        refused(court, "leastAnew", -1, 0);
        refused(court, "ofPrinciple", 0, 4);
        refused(court, "problem", 5, 1, 1);
        refused(court, "problem", 1, 1, 3);
        refused(court, "product", -1, 0);
        refused(court, "reduces", 6, 0);
        refused(court, "reducesAnew", 0, -1);
        refused(court, "forth", 0, 0, 4);
        refused(court, "ofProblem", 0, 3);
        refused(court, "has", 5, 0);
        refused(court, "hasAnew", 1, 4);
    }

    private static void refused(Trial court, String call, Object... arguments) {
        String answer = String.valueOf(court.ask(call, arguments));
        Trial.check(true, answer.startsWith("throws."), Trial.text(call, arguments) + " throws");
    }

    private static void same(Trial due, Trial court, String call, Object... arguments) {
        Trial.check(due.ask(call, arguments), court.ask(call, arguments),
                Trial.text(call, arguments) + " behind calls that threw");
    }

    private static void alike(Trial due, Trial court, int principles, int problems) {
        for (String call : new String[] {"fault", "sigma", "pi", "free", "open"}) {
            same(due, court, call);
        }
        same(due, court, "isSo", 3, 0, 2, 1);
        for (int one = 0; one < principles; one++) {
            for (int what = 0; what < 4; what++) {
                same(due, court, "ofPrinciple", one, what);
            }
            same(due, court, "proves", 1 << one);
            same(due, court, "known", one, (one + 1) % principles);
        }
        same(due, court, "proves", 0);
        same(due, court, "proves", (1 << principles) - 1);
        for (int one = 0; one < problems; one++) {
            for (int what = 0; what < 3; what++) {
                same(due, court, "ofProblem", one, what);
            }
            same(due, court, "reduces", one, 0);
        }
        next(due, court);
    }

    /** What comes next has the number that it had without the calls that threw. */
    private static void next(Trial due, Trial court) {
        same(due, court, "letter", 'x');
        same(due, court, "blank");
        same(due, court, "rule", 0, 0);
        same(due, court, "model", 0);
        same(due, court, "problem", 1, 1, 1);
        due.type("Exx=x");
        court.type("Exx=x");
        same(due, court, "principle");
        same(due, court, "ofPrinciple", 0, 2);
        same(due, court, "proof", 0, 0, 0);
        same(due, court, "least", 0, 0);
        same(due, court, "leastAnew", 0, MANY);
    }
}
