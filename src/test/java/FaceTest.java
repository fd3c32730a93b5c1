import java.lang.reflect.Constructor;
import java.lang.reflect.Field;
import java.lang.reflect.Method;
import java.lang.reflect.Modifier;
import java.util.Set;
import java.util.TreeSet;

/** The public face, its constants, and promise 1: a new object. */
public final class FaceTest {
    private static final String OUT = "IndexOutOfBoundsException";
    private static final String ARGUMENT = "IllegalArgumentException";
    private static final String STATE = "IllegalStateException";

    private static final String[] FACE = {
        method("int letter(char)", ARGUMENT, STATE),
        method("int blank()"),
        method("int fault()"),
        method("int sigma()"),
        method("int pi()"),
        method("int free()"),
        method("boolean isSo(int,int,int,int)", ARGUMENT, STATE),
        method("int principle()", STATE),
        method("int rule(int,int)", OUT, ARGUMENT, STATE),
        method("int model(int)", ARGUMENT, STATE),
        method("int proves(int)", ARGUMENT),
        method("int proof(int,int,int)", OUT, ARGUMENT),
        method("int known(int,int)", OUT, ARGUMENT),
        method("int open()"),
        method("int least(int,int)", OUT, ARGUMENT),
        method("int leastAnew(int,int)", OUT, ARGUMENT),
        method("int ofPrinciple(int,int)", OUT, ARGUMENT),
        method("int problem(int,int,int)", ARGUMENT, STATE),
        method("int product(int,int)", OUT, STATE),
        method("int reduces(int,int)", OUT),
        method("int reducesAnew(int,int)", OUT),
        method("int forth(int,int,int)", OUT),
        method("int ofProblem(int,int)", OUT, ARGUMENT),
        method("boolean has(int,int)", ARGUMENT),
        method("boolean hasAnew(int,int)", ARGUMENT),
    };

    private FaceTest() {
    }

    public static void main(String[] args) {
        methods();
        membersBesides();
        constants();
        newObject();
        objectsOfTheirOwn();
        Trial.end();
    }

    private static String method(String head, String... thrown) {
        return "public " + head + " throws " + String.join(",", thrown);
    }

    private static void methods() {
        Set<String> due = new TreeSet<>(Set.of(FACE));
        Set<String> found = new TreeSet<>();
        for (Method method : ReversalCourt.class.getDeclaredMethods()) {
            if (!Modifier.isPrivate(method.getModifiers())) {
                found.add(Modifier.toString(method.getModifiers()) + " "
                        + method.getReturnType() + " " + method.getName()
                        + "(" + names(method.getParameterTypes()) + ") throws "
                        + names(method.getExceptionTypes()));
            }
        }
        Trial.check(due, found, "the methods of the face");
    }

    private static String names(Class<?>[] types) {
        StringBuilder names = new StringBuilder();
        for (Class<?> type : types) {
            names.append(names.length() == 0 ? "" : ",").append(type.getSimpleName());
        }
        return names.toString();
    }

    private static void membersBesides() {
        int modifiers = ReversalCourt.class.getModifiers();
        Trial.check(true, Modifier.isPublic(modifiers) && Modifier.isFinal(modifiers),
                "the class is public and final");
        Trial.check(1, ReversalCourt.class.getDeclaredConstructors().length, "constructors");
        for (Constructor<?> constructor : ReversalCourt.class.getConstructors()) {
            Trial.check(0, constructor.getParameterCount(), "what the constructor takes");
        }
        Set<String> fields = new TreeSet<>();
        for (Field field : ReversalCourt.class.getDeclaredFields()) {
            if (!Modifier.isPrivate(field.getModifiers())) {
                fields.add(Modifier.toString(field.getModifiers()) + " " + field.getType() + " "
                        + field.getName());
            }
        }
        Trial.check(new TreeSet<>(Set.of("public static final int NONE",
                "public static final int DOES_NOT", "public static final int OPEN",
                "public static final int IMPLIES")), fields, "the fields of the face");
    }

    private static void constants() {
        Trial.check(-1, ReversalCourt.NONE, "NONE");
        Trial.check(-1, ReversalCourt.DOES_NOT, "DOES_NOT");
        Trial.check(0, ReversalCourt.OPEN, "OPEN");
        Trial.check(1, ReversalCourt.IMPLIES, "IMPLIES");
    }

    private static void newObject() {
        Trial court = Trial.ofNew();
        court.due(0, "fault").due(Trial.NONE, "sigma").due(Trial.NONE, "pi");
        court.due(Trial.NONE, "free").due(Trial.BAD_STATE, "isSo", 1, 0, 0, 0);
        court.due(0, "open").due(0, "proves", 0).due(Trial.BAD_ARGUMENT, "proves", 1);
        court.due(Trial.OUT_OF_BOUNDS, "ofPrinciple", 0, 0);
        court.due(Trial.OUT_OF_BOUNDS, "known", 0, 0);
        court.due(Trial.OUT_OF_BOUNDS, "ofProblem", 0, 0);
        court.due(Trial.OUT_OF_BOUNDS, "reduces", 0, 0);
        court.due(0, "blank").due(0, "model", 0).due(0, "problem", 1, 1, 1);
        court.due(1, "letter", 'A').principle("Axx=x").due(0, "ofPrinciple", 0, 2);
        court.due(0, "ofPrinciple", 0, 3).due(Trial.BAD_STATE, "rule", 0, 0);
        Trial.ofNew().principles(1).due(0, "rule", 0, 0);
    }

    private static void objectsOfTheirOwn() {
        Trial one = Trial.ofNew();
        Trial other = Trial.ofNew();
        one.principles(2).due(0, "rule", 1, 1).due(0, "problem", 2, 2, 33).type("x<y");
        other.due(0, "blank").due(0, "open").due(Trial.OUT_OF_BOUNDS, "ofProblem", 0, 0);
        other.principles(2).due(2, "proves", 2).due(1, "proves", 1).due(2, "open");
        one.due(3, "proves", 1).due(1, "open").due(3, "fault");
    }
}
