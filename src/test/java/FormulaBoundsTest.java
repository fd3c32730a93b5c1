/** The sentences on classes, free variables and worlds with a boundary case: promises 5 to 8. */
public final class FormulaBoundsTest {
    private static final int LARGEST = 5;
    private static final String VARIABLES = "xyz";

    /** Closed formulas and an atom, each with its SIGMA and PI. */
    private static final String[] PARTS = {
        "x=x", "Exx=x", "Axx=x", "(Exx=x&Axx=x)", "ExAyx=y", "AxEyx=y", "EzAxEyx=y", "AzExAyx=y",
    };
    private static final int[] SIGMAS = {0, 1, 2, 2, 2, 3, 3, 4};
    private static final int[] PIS = {0, 2, 1, 2, 3, 2, 4, 3};

    private FormulaBoundsTest() {
    }

    public static void main(String[] args) {
        classOfAtoms();
        classBehindBang();
        classOfBoth();
        classOfThen();
        classBehindBounds();
        classBehindSome();
        classBehindAll();
        highestClasses();
        freeOfAtoms();
        freeOfParts();
        freeBehindQuantifiers();
        freeBehindBounds();
        noFormula();
        numbersOfWorlds();
        orderOfWorlds();
        notSo();
        bothOneThen();
        allAndSome();
        belowBounds();
        boundsOfItself();
        sizes();
        numbersInRange();
        numbersOutOfRange();
        pagesNotTried();
        sixQuantifiers();
        fortyLetters();
        Trial.end();
    }

    private static void classed(String page, int sigma, int pi) {
        Trial.ofNew().type(page).due(sigma, "sigma").due(pi, "pi");
    }

    private static void isFree(String page, int free) {
        Trial court = Trial.ofNew().type(page);
        Trial.check(free, court.ask("free"), "free() of " + page);
    }

    private static void so(boolean due, String page, int size, int x, int y, int z) {
        Trial court = Trial.ofNew().type(page);
        Trial.check(due, court.ask("isSo", size, x, y, z),
                page + " in " + Trial.text("isSo", size, x, y, z));
    }

    // ---- classes

    private static void classOfAtoms() {
        Trial.sentence("The SIGMA and the PI of a FORMULA are numbers: of an ATOM 0 and 0");
        for (char left : VARIABLES.toCharArray()) {
            for (char right : VARIABLES.toCharArray()) {
                classed(left + "<" + right, 0, 0);
                classed(left + "=" + right, 0, 0);
            }
        }
    }

    private static void classBehindBang() {
        Trial.sentence("with ! the PI and the SIGMA of what is behind it");
        for (int part = 0; part < PARTS.length; part++) {
            classed("!" + PARTS[part], PIS[part], SIGMAS[part]);
            classed("!!" + PARTS[part], SIGMAS[part], PIS[part]);
            classed("!!!" + PARTS[part], PIS[part], SIGMAS[part]);
        }
        classed("!".repeat(37) + "x<y", 0, 0);
        classed("!".repeat(35) + "Exx<y", 2, 1);
        classed("!".repeat(34) + "!Axx<y", 1, 2);
    }

    private static void classOfBoth() {
        Trial.sentence("of & and | the greater SIGMA and the greater PI of both");
        for (int one = 0; one < PARTS.length; one++) {
            for (int two = 0; two < PARTS.length; two++) {
                int sigma = Math.max(SIGMAS[one], SIGMAS[two]);
                int pi = Math.max(PIS[one], PIS[two]);
                classed("(" + PARTS[one] + "&" + PARTS[two] + ")", sigma, pi);
                classed("(" + PARTS[one] + "|" + PARTS[two] + ")", sigma, pi);
            }
        }
    }

    private static void classOfThen() {
        Trial.sentence("with > as | of the first one with !, and the second one");
        for (int one = 0; one < PARTS.length; one++) {
            for (int two = 0; two < PARTS.length; two++) {
                classed("(" + PARTS[one] + ">" + PARTS[two] + ")",
                        Math.max(PIS[one], SIGMAS[two]), Math.max(SIGMAS[one], PIS[two]));
            }
        }
    }

    private static void classBehindBounds() {
        Trial.sentence("with a and e those of what is behind");
        for (int part = 0; part < PARTS.length; part++) {
            for (String bound : new String[] {"axy", "exy", "azz", "ezz", "eyx", "ayx"}) {
                classed(bound + PARTS[part], SIGMAS[part], PIS[part]);
            }
        }
        classed("axyExx=y", 1, 2);
        classed("Exaxyx=y", 1, 2);
        classed("Axexyx=y", 2, 1);
    }

    private static void classBehindSome() {
        Trial.sentence("with E the SIGMA is the lesser of its SIGMA, but 1 at least, and of 1 more"
                + " than its PI, and the PI is 1 more than the SIGMA found so");
        classed("Exx=y", 1, 2);
        classed("Ex!x=y", 1, 2);
        classed("Exaxyx=y", 1, 2);
        for (int part = 1; part < PARTS.length; part++) {
            classed("Ex" + PARTS[part], SIGMAS[part], SIGMAS[part] + 1);
            classed("EyEz" + PARTS[part], SIGMAS[part], SIGMAS[part] + 1);
        }
        classed("Ez(AxEyx=y&ExAyx=y)", 3, 4);
    }

    private static void classBehindAll() {
        Trial.sentence("with A the PI is the lesser of its PI, but 1 at least, and of 1 more than"
                + " its SIGMA, and the SIGMA is 1 more than the PI found so");
        classed("Axx=y", 2, 1);
        classed("Ax!x=y", 2, 1);
        classed("Axexyx=y", 2, 1);
        for (int part = 1; part < PARTS.length; part++) {
            classed("Ax" + PARTS[part], PIS[part] + 1, PIS[part]);
            classed("AyAz" + PARTS[part], PIS[part] + 1, PIS[part]);
        }
        classed("Az(AxEyx=y&ExAyx=y)", 4, 3);
    }

    private static void highestClasses() {
        Trial.sentence("SIGMA and PI of the PAGES of 39 and 40 letters with the most quantifiers");
        classed("ExAy".repeat(9) + "x=y", 18, 19);
        classed("AxEy".repeat(9) + "x=y", 19, 18);
        classed("!" + "ExAy".repeat(9) + "x=y", 19, 18);
        classed("ExAy".repeat(9) + "!x=y", 18, 19);
        classed("Ax".repeat(18) + "!x=y", 2, 1);
        classed("Ex".repeat(18) + "!x=y", 1, 2);
        classed("(" + "ExAy".repeat(7) + "Exx=y" + "&x=y)", 15, 16);
    }

    // ---- free variables

    private static int bit(char variable) {
        return 1 << VARIABLES.indexOf(variable);
    }

    private static void freeOfAtoms() {
        Trial.sentence("The FREE VARIABLES are told by bits, 1 for x, 2 for y, 4 for z:"
                + " of an ATOM both");
        isFree("x=x", 1);
        isFree("y<y", 2);
        isFree("z=z", 4);
        isFree("x<y", 3);
        isFree("z<x", 5);
        isFree("y=z", 6);
        isFree("z<y", 6);
        isFree("y=x", 3);
        isFree("x=z", 5);
    }

    private static void freeOfParts() {
        Trial.sentence("of what has parts those of its parts");
        for (char operator : "&|>".toCharArray()) {
            isFree("(x=x" + operator + "y=y)", 3);
            isFree("(z=z" + operator + "z=z)", 4);
            isFree("(z=y" + operator + "x=x)", 7);
            isFree("(Axx=x" + operator + "x=x)", 1);
            isFree("(x=x" + operator + "Axx=x)", 1);
            isFree("(Axx=x" + operator + "Ezz<z)", 0);
        }
        isFree("!z=x", 5);
        isFree("!".repeat(37) + "y<y", 2);
        isFree("!Axx=x", 0);
    }

    private static void freeBehindQuantifiers() {
        Trial.sentence("behind A, E, a or e those of the FORMULA there but its VARIABLE");
        for (char bound : VARIABLES.toCharArray()) {
            for (char left : VARIABLES.toCharArray()) {
                for (char right : VARIABLES.toCharArray()) {
                    int free = (bit(left) | bit(right)) & ~bit(bound);
                    isFree("A" + bound + left + "<" + right, free);
                    isFree("E" + bound + left + "=" + right, free);
                }
            }
        }
        isFree("AxAyAz(x=y&y=z)", 0);
        isFree("Axy=y", 2);
        isFree("ExExx=z", 4);
    }

    private static void freeBehindBounds() {
        Trial.sentence("and with a or e also the second VARIABLE, even if it is the same");
        for (char bound : VARIABLES.toCharArray()) {
            for (char second : VARIABLES.toCharArray()) {
                for (char left : VARIABLES.toCharArray()) {
                    int free = bit(left) & ~bit(bound) | bit(second);
                    isFree("a" + bound + second + left + "=" + left, free);
                    isFree("e" + bound + second + left + "<" + left, free);
                }
            }
        }
        isFree("axxx=x", 1);
        isFree("Axexxx=x", 0);
        isFree("axxaxxx=x", 1);
        isFree("Ayaxyx=x", 0);
        isFree("axyeyzz<x", 6);
    }

    // ---- no formula

    private static void noFormula() {
        Trial.sentence("Promises 5 to 7: NONE if it is no FORMULA");
        String[] none = {"", "x", "x<", "x<yx", "x<y)", "!", "!x=", "(x<y", "(x<y)", "(x<y&x=x",
            "(x<y&x=x))", "A", "Ax", "Axx", "Axx=xx", "axy", "axyx=", ")", "<", "x>y",
            "!".repeat(40), "!".repeat(38) + "x<", "!".repeat(36) + "x<yy"};
        for (String page : none) {
            for (String call : new String[] {"sigma", "pi", "free"}) {
                Trial court = Trial.ofNew().type(page);
                Trial.check(Trial.NONE, court.ask(call), call + "() of " + page);
            }
        }
        Trial court = Trial.ofNew().type("x<").due(Trial.NONE, "sigma").type("y").due(0, "sigma");
        court.due(3, "free").type("z").due(Trial.NONE, "free").due(Trial.NONE, "pi");
        court.due(4, "blank").due(Trial.NONE, "pi").type("z=z").due(0, "pi").due(4, "free");
    }

    // ---- worlds

    private static void numbersOfWorlds() {
        Trial.sentence("A WORLD of a size has the numbers 0 to less than the size");
        String[] atLeast = {"Exx=x", "ExEyx<y", "ExEy(x<y&Ezy<z)", "ExEy(x<y&Ez(y<z&Exz<x))",
            "ExEy(x<y&Ez(y<z&Ex(z<x&Eyx<y)))"};
        for (int size = 1; size <= LARGEST; size++) {
            for (int numbers = 1; numbers <= LARGEST; numbers++) {
                so(size >= numbers, atLeast[numbers - 1], size, 0, 0, 0);
            }
            for (int number = 0; number < size; number++) {
                so(true, "Exx=y", size, 0, number, 0);
                so(number < size - 1, "Exy<x", size, 0, number, 0);
                so(number > 0, "Exx<y", size, 0, number, 0);
            }
        }
    }

    private static void orderOfWorlds() {
        Trial.sentence("A WORLD ... < and = as they are");
        for (int one = 0; one < LARGEST; one++) {
            for (int two = 0; two < LARGEST; two++) {
                so(one < two, "x<y", 5, one, two, 0);
                so(one == two, "x=y", 5, one, two, 0);
                so(one < two, "z<x", 5, two, 0, one);
                so(one == two, "y=z", 5, 0, two, one);
            }
        }
        so(false, "x<x", 1, 0, 0, 0);
        so(true, "y=y", 1, 0, 0, 0);
    }

    private static void notSo() {
        Trial.sentence("! and a FORMULA: it is not so");
        for (int bangs = 0; bangs <= 37; bangs++) {
            so(bangs % 2 == 0, "!".repeat(bangs) + "x<y", 2, 0, 1, 0);
            so(bangs % 2 != 0, "!".repeat(bangs) + "y<x", 2, 0, 1, 0);
        }
    }

    private static void bothOneThen() {
        Trial.sentence("with & both, with | one of them at least, with > the second one,"
                + " if the first one is so");
        String[] values = {"z<z", "z=z"};
        for (int one = 0; one < 2; one++) {
            for (int two = 0; two < 2; two++) {
                so(one + two == 2, "(" + values[one] + "&" + values[two] + ")", 1, 0, 0, 0);
                so(one + two > 0, "(" + values[one] + "|" + values[two] + ")", 1, 0, 0, 0);
                so(one <= two, "(" + values[one] + ">" + values[two] + ")", 1, 0, 0, 0);
            }
        }
    }

    private static void allAndSome() {
        Trial.sentence("for all numbers in place of the VARIABLE, or for some");
        for (int size = 1; size <= LARGEST; size++) {
            for (int number = 0; number < size; number++) {
                for (String some : new String[] {"Exx=y", "Ezz=y"}) {
                    so(true, some, size, 0, number, 0);
                }
                so(size == 1, "Axx=y", size, 0, number, 0);
                so(size == 1, "Azy=z", size, 0, number, 0);
                so(false, "Ax!x=y", size, 0, number, 0);
                so(size > 1, "Ex!x=y", size, 0, number, 0);
                so(number == size - 1, "Ax!y<x", size, 0, number, 0);
                so(number == 0, "Ax!x<y", size, 0, number, 0);
                so(number == 0, "Ay!y<x", size, number, size - 1, 0);
                so(number == 0, "Ax!x<z", size, size - 1, 0, number);
            }
        }
    }

    private static void belowBounds() {
        Trial.sentence("the same, for numbers below what the second VARIABLE is ahead of that");
        for (int bound = 0; bound < LARGEST; bound++) {
            for (int number = 0; number < LARGEST; number++) {
                so(number < bound, "exyx=z", 5, 4, bound, number);
                so(number >= bound, "axy!x=z", 5, 0, bound, number);
                so(number < bound, "ezxz=y", 5, bound, number, 3);
                so(number >= bound, "ayz!y=x", 5, number, 2, bound);
            }
            so(bound == 0, "axyx<x", 5, 0, bound, 0);
            so(bound > 0, "eyzy=y", 5, 0, 0, bound);
            so(false, "ezyz=y", 5, 0, bound, 0);
            so(true, "azyz<y", 5, 0, bound, 4);
        }
        so(true, "axyx<x", 1, 0, 0, 0);
        so(false, "exyx=x", 1, 0, 0, 0);
    }

    private static void boundsOfItself() {
        Trial.sentence("what the second VARIABLE is ahead of that, also if both are the same");
        for (int bound = 0; bound < LARGEST; bound++) {
            for (int number = 0; number < LARGEST; number++) {
                so(number < bound, "exxx=z", 5, bound, 0, number);
                so(number >= bound, "ayy!y=z", 5, 0, bound, number);
                so(number < bound, "ezzz=x", 5, number, 0, bound);
                so(number + 1 < bound, "exxexxx=z", 5, bound, 0, number);
            }
            so(bound == 0, "axxx<x", 5, bound, 0, 0);
            so(true, "Axaxx!x=y", 5, bound, 4, 0);
            so(bound < 4, "Exexxx=y", 5, 0, bound, 0);
        }
    }

    // ---- isSo

    private static void sizes() {
        Trial.sentence("Promise 8: size: 1 to 5");
        for (int size = 1; size <= LARGEST; size++) {
            so(true, "z=z", size, 0, 0, 0);
        }
        for (String page : new String[] {"z=z", "", "Ax".repeat(7) + "x=x"}) {
            Trial court = Trial.ofNew().type(page);
            for (int size : Edges.outside(1, LARGEST)) {
                court.due(Trial.BAD_ARGUMENT, "isSo", size, 0, 0, 0);
            }
        }
    }

    private static void numbersInRange() {
        Trial.sentence("Promise 8: x, y, z: 0 to less than size");
        for (int size = 1; size <= LARGEST; size++) {
            for (int number = 0; number < size; number++) {
                so(true, "x=x", size, number, 0, 0);
                so(true, "x=x", size, 0, number, 0);
                so(true, "x=x", size, 0, 0, number);
            }
            so(true, "(x=y&y=z)", size, size - 1, size - 1, size - 1);
        }
    }

    private static void numbersOutOfRange() {
        Trial.sentence("Promise 8: Throws IllegalArgumentException if a number is out of range");
        for (String page : new String[] {"x=x", "x=", "Ax".repeat(7) + "x=x"}) {
            for (int size = 1; size <= LARGEST; size++) {
                Trial court = Trial.ofNew().type(page);
                for (int off : Edges.noneOf(size)) {
                    court.due(Trial.BAD_ARGUMENT, "isSo", size, off, 0, 0);
                    court.due(Trial.BAD_ARGUMENT, "isSo", size, 0, off, 0);
                    court.due(Trial.BAD_ARGUMENT, "isSo", size, 0, 0, off);
                    court.due(Trial.BAD_ARGUMENT, "isSo", size, off, off, off);
                }
            }
        }
    }

    private static void pagesNotTried() {
        Trial.sentence("Promise 8: Throws IllegalStateException if the PAGE is no FORMULA");
        for (String page : new String[] {"", "x", "x=", "x=xx", "Axx=", "(x=x&x=x", "(x=x)",
            "!".repeat(40), "x=x" + "A".repeat(7)}) {
            Trial court = Trial.ofNew().type(page);
            court.due(Trial.BAD_STATE, "isSo", 1, 0, 0, 0).due(Trial.BAD_STATE, "isSo", 5, 4, 4, 4);
        }
        Trial court = Trial.ofNew().type("x=x").due(true, "isSo", 1, 0, 0, 0).type("x");
        court.due(Trial.BAD_STATE, "isSo", 1, 0, 0, 0);
        court = Trial.ofNew().principles(1).due(Trial.BAD_STATE, "isSo", 1, 0, 0, 0);
    }

    private static void sixQuantifiers() {
        Trial.sentence("Promise 8: ... or has more than 6 of the letters A, E, a and e");
        String[] quantifiers = {"Ax", "Ex", "axy", "exy"};
        for (int six = 0; six < quantifiers.length; six++) {
            String page = quantifiers[six].repeat(6) + "y<z";
            Trial.ofNew().type(page).due(six == 2, "isSo", 5, 0, 0, 0);
            for (String seventh : quantifiers) {
                Trial court = Trial.ofNew().type(seventh + page);
                court.due(Trial.BAD_STATE, "isSo", 1, 0, 0, 0);
                court.due(Trial.BAD_STATE, "isSo", 5, 4, 4, 4).due(page.length()
                        + seventh.length(), "fault");
            }
        }
        Trial.ofNew().type("((AxEyx<y>AxEyx=y)&exyaxyx=x)").due(false, "isSo", 2, 0, 0, 0);
        Trial.ofNew().type("((AxEyx<y>AxEyx=y)&ayxExx=x)").due(true, "isSo", 2, 0, 0, 0);
        Trial.ofNew().type("((AxEyx<y>AxEyx=y)&axyexyExx=x)")
                .due(Trial.BAD_STATE, "isSo", 2, 0, 0, 0);
        sixOnePageBehindAnother();
    }

    private static void sixOnePageBehindAnother() {
        String six = "AxExaxyexyAzEz";
        Trial court = Trial.ofNew().type(six).due(14, "blank");
        court.type(six + "x=x").due(true, "isSo", 1, 0, 0, 0).type(six).due(31, "blank");
        court.type("Ax" + six + "x=x").due(Trial.BAD_STATE, "isSo", 1, 0, 0, 0).due(19, "blank");
        court.type(six + "x=x").due(true, "isSo", 5, 0, 0, 0).due(17, "blank");
        court.type("AxAyAzAxAyAzAxx=x").due(0, "principle");
        court.type(six + "x<x").due(true, "isSo", 1, 0, 0, 0);
    }

    private static void fortyLetters() {
        Trial.sentence("Promises 5 to 8: a PAGE of 40 letters that is a FORMULA");
        Trial court = Trial.ofNew().type("!!!(AxEy(axyx<z|ezzy=z)>((x<y&x=x)|z=y))");
        court.due(40, "fault").due(3, "sigma").due(2, "pi").due(7, "free");
        court.due(false, "isSo", 5, 0, 1, 2).due(true, "isSo", 5, 1, 1, 2).due(40, "blank");
    }
}
