import java.lang.reflect.InvocationTargetException;
import java.lang.reflect.Method;

/**
 * Calls on one object, each by its name, with the answers that are due. An exception counts as the
 * answer "throws." and its simple name, so that a machine's own kind is never taken for a due one.
 */
final class Trial {
    static final String OUT_OF_BOUNDS = "throws.IndexOutOfBoundsException";
    static final String BAD_ARGUMENT = "throws.IllegalArgumentException";
    static final String BAD_STATE = "throws.IllegalStateException";
    static final int NONE = -1;
    /** What an object is used for at most, by the document. */
    static final int MOST_CALLS = 512;

    private static int asked = 0;
    private static int wrong = 0;
    private static String sentence = "";
    private static int askedAheadOfSentence = 0;
    private static int wrongAheadOfSentence = 0;

    private final Object subject;
    private int calls = 0;

    Trial(Object subject) {
        this.subject = subject;
    }

    static Trial ofNew() {
        return new Trial(new ReversalCourt());
    }

    int calls() {
        return calls;
    }

    Object ask(String call, Object... arguments) {
        calls++;
        if (calls > MOST_CALLS) {
            throw new AssertionError("a test uses an object for too many calls");
        }
        for (Method method : subject.getClass().getDeclaredMethods()) {
            if (method.getName().equals(call)) {
                return outcome(method, arguments);
            }
        }
        throw new AssertionError("there is no call " + call);
    }

    private Object outcome(Method method, Object... arguments) {
        try {
            method.setAccessible(true);
            return method.invoke(subject, arguments);
        } catch (InvocationTargetException thrown) {
            return "throws." + thrown.getCause().getClass().getSimpleName();
        } catch (IllegalAccessException refused) {
            throw new AssertionError(refused);
        }
    }

    Trial due(Object answer, String call, Object... arguments) {
        check(answer, ask(call, arguments), text(call, arguments));
        return this;
    }

    /** Types letters, each of which has to be taken. */
    Trial type(String letters) {
        for (char letter : letters.toCharArray()) {
            Object answer = ask("letter", letter);
            check(true, answer instanceof Integer, "letter(" + letter + ") is taken");
        }
        return this;
    }

    Trial page(String letters) {
        ask("blank");
        return type(letters);
    }

    Trial principle(String letters) {
        page(letters);
        Object answer = ask("principle");
        check(true, answer instanceof Integer, "principle() of " + letters + " is taken");
        return this;
    }

    Trial principles(int howMany) {
        for (int one = 0; one < howMany; one++) {
            principle("Axx=x");
        }
        return this;
    }

    static void check(Object due, Object answer, String what) {
        asked++;
        if (!due.equals(answer)) {
            wrong++;
            System.out.println(what + " answered " + answer + ", due is " + due);
        }
    }

    static String text(String call, Object... arguments) {
        StringBuilder text = new StringBuilder(call).append('(');
        for (int place = 0; place < arguments.length; place++) {
            text.append(place == 0 ? "" : ", ").append(arguments[place]);
        }
        return text.append(')').toString();
    }

    /** What is checked from here on is due by these words of the document. */
    static void sentence(String words) {
        endSentence();
        sentence = words;
        askedAheadOfSentence = asked;
        wrongAheadOfSentence = wrong;
    }

    private static void endSentence() {
        if (sentence.isEmpty()) {
            return;
        }
        int answers = asked - askedAheadOfSentence;
        check(true, answers > 0, "something is checked by: " + sentence);
        boolean held = wrong == wrongAheadOfSentence;
        System.out.println((held ? "  held, " : "  BROKEN, ") + answers + " answers: " + sentence);
        sentence = "";
    }

    /** Has to be the last call of a test's main. */
    static void end() {
        endSentence();
        System.out.println(asked + " answers, " + wrong + " of them wrong");
        if (wrong != 0 || asked == 0) {
            System.exit(1);
        }
    }
}
