/** Promises 5 to 8: sigma, pi, free, isSo. */
public final class FormulaTest {
    private static final int LARGEST_WORLD = 5;

    private FormulaTest() {
    }

    public static void main(String[] args) {
        classes();
        alternations();
        noFormulas();
        atoms();
        connectives();
        quantifiers();
        boundedQuantifiers();
        sizes();
        sixQuantifiers();
        wrongNumbers();
        Trial.end();
    }

    private static void classed(String page, int sigma, int pi, int free) {
        Trial.ofNew().type(page).due(page.length(), "fault").due(sigma, "sigma").due(pi, "pi")
                .due(free, "free");
    }

    private static void classes() {
        classed("x<y", 0, 0, 3);
        classed("z=z", 0, 0, 4);
        classed("!x=z", 0, 0, 5);
        classed("Exx<y", 1, 2, 2);
        classed("Axx<y", 2, 1, 2);
        classed("Ayx<z", 2, 1, 5);
        classed("Azz=z", 2, 1, 0);
        classed("!Exx<y", 2, 1, 2);
        classed("!Axx<y", 1, 2, 2);
        classed("AxEyx<y", 3, 2, 0);
        classed("ExAyx<y", 2, 3, 0);
        classed("ExEyx<y", 1, 2, 0);
        classed("AxAyx<y", 2, 1, 0);
        classed("(Exx<x&Ayy<y)", 2, 2, 0);
        classed("(Exx<x|Ayy<y)", 2, 2, 0);
        classed("(Exx<x|Eyy<z)", 1, 2, 4);
        classed("(Ayy<y&x=x)", 2, 1, 1);
        classed("(Exx<x>Eyy<y)", 2, 2, 0);
        classed("(Exx<x>Ayy<y)", 2, 1, 0);
        classed("(Axx<x>Eyy<y)", 1, 2, 0);
        classed("(Axx<x>Ayy<y)", 2, 2, 0);
        classed("(AxEyx<y>z=z)", 2, 3, 4);
        classed("(z=z>AxEyx<y)", 3, 2, 4);
        classed("Ez(Exx<x&Ayy<y)", 2, 3, 0);
        classed("Az(Exx<x&Ayy<y)", 3, 2, 0);
        classed("EzAxEyx<y", 3, 4, 0);
        classed("AzExAyx<y", 4, 3, 0);
        classed("axyx<z", 0, 0, 6);
        classed("axxx<z", 0, 0, 5);
        classed("exxy=y", 0, 0, 3);
        classed("exyEzz<x", 1, 2, 2);
        classed("ayxAxx=y", 2, 1, 1);
        classed("AyaxyEzx=z", 3, 2, 0);
        classed("(Axx=x&x=x)", 2, 1, 1);
        classed("AxExx<z", 3, 2, 4);
    }

    /** Each quantifier that is unlike the one behind it goes one up, each like one does not. */
    private static void alternations() {
        String page = "x=x";
        for (int height = 1; page.length() + 2 <= 40; height++) {
            boolean some = height % 2 == 1;
            page = (some ? "Ex" : "Ax") + page;
            classed(page, some ? height : height + 1, some ? height + 1 : height, 0);
        }
        classed("Ax".repeat(18) + "x=x", 2, 1, 0);
        classed("Ex".repeat(18) + "x=x", 1, 2, 0);
        classed("!".repeat(35) + "Eyy=y", 2, 1, 0);
        classed("!".repeat(34) + "Eyy=x", 1, 2, 1);
    }

    private static void noFormulas() {
        for (String page : new String[] {"", "x", "x<", "x<yx", "!", "(x<y", "(x<y&z=z", "(x<y)",
            "Ax", "axy", "x<yAxx=x", ")", "(x<y&z=z))"}) {
            Trial court = Trial.ofNew().type(page).due(Trial.NONE, "sigma");
            court.due(Trial.NONE, "pi").due(Trial.NONE, "free");
            court.due(Trial.BAD_STATE, "isSo", 1, 0, 0, 0).due(page.length(), "blank");
        }
    }

    private static void so(boolean due, String page, int size, int x, int y, int z) {
        Trial court = Trial.ofNew().type(page);
        Trial.check(due, court.ask("isSo", size, x, y, z),
                page + " in " + Trial.text("isSo", size, x, y, z));
    }

    private static void atoms() {
        for (int x = 0; x < LARGEST_WORLD; x++) {
            for (int y = 0; y < LARGEST_WORLD; y++) {
                int z = LARGEST_WORLD - 1 - x;
                so(x < y, "x<y", 5, x, y, z);
                so(y < x, "y<x", 5, x, y, z);
                so(y < z, "y<z", 5, x, y, z);
                so(x == y, "x=y", 5, x, y, z);
                so(z == x, "z=x", 5, x, y, z);
                so(z == y, "z=y", 5, x, y, z);
                so(false, "x<x", 5, x, y, z);
                so(true, "z=z", 5, x, y, z);
            }
        }
    }

    private static void connectives() {
        for (int x = 0; x < 2; x++) {
            for (int y = 0; y < 2; y++) {
                boolean first = x == 1;
                boolean second = y == 1;
                so(!first, "!z<x", 2, x, y, 0);
                so(first, "!!z<x", 2, x, y, 0);
                so(first && second, "(z<x&z<y)", 2, x, y, 0);
                so(first || second, "(z<x|z<y)", 2, x, y, 0);
                so(!first || second, "(z<x>z<y)", 2, x, y, 0);
                so(!(first && second) || first, "((z<x&z<y)>!!z<x)", 2, x, y, 0);
                so(first || !second, "(z<x|(z<y>z<x))", 2, x, y, 0);
            }
        }
    }

    private static void quantifiers() {
        for (int size = 1; size <= LARGEST_WORLD; size++) {
            int last = size - 1;
            so(false, "AxEyx<y", size, 0, 0, 0);
            so(true, "ExAy!y<x", size, last, last, last);
            so(true, "ExAy!x<y", size, 0, 0, 0);
            so(true, "AxEyx=y", size, 0, 0, 0);
            so(size == 1, "ExAyx=y", size, 0, 0, 0);
            so(size == 1, "AxAyx=y", size, 0, 0, 0);
            so(size > 1, "ExEyx<y", size, 0, 0, 0);
            so(size > 1, "Eyx<y", size, 0, last, 0);
            so(false, "Eyx<y", size, last, 0, 0);
            so(false, "Ezy<z", size, last, last, last);
            so(true, "Ax(Axx=x&x=x)", size, 0, 0, 0);
            so(size > 1, "(Exx<y&x=y)", size, last, last, 0);
            so(true, "Az(z<x|(z=x|x<z))", size, last, 0, 0);
            so(size == 1, "Az!z<x", size, last, 0, 0);
        }
    }

    private static void boundedQuantifiers() {
        for (int x = 0; x < LARGEST_WORLD; x++) {
            for (int y = 0; y < LARGEST_WORLD; y++) {
                so(true, "axyx<y", 5, x, y, 0);
                so(y > 0, "exyx<y", 5, x, y, 0);
                so(x == 0, "axx!x=x", 5, x, y, 0);
                so(x > 0, "exxx=x", 5, x, y, 0);
                so(y == 0 || y < x, "(exyx=x>y<x)", 5, x, y, 0);
                so(y <= x + 1, "azy!x<z", 5, x, y, 0);
                so(x + 1 < y, "ezyx<z", 5, x, y, 0);
                so(y > 1, "exyeyxx=x", 5, x, y, 0);
                so(y > 1, "eyyezyz=z", 5, x, y, 4);
                so(y <= x, "azyz<x", 5, x, y, 4);
            }
        }
    }

    /** Both pages say that there are five numbers, the first one with five quantifiers. */
    private static void sizes() {
        for (int size = 1; size <= LARGEST_WORLD; size++) {
            so(size >= 5, "ExEy(x<y&Ex(y<x&Ey(x<y&Exy<x)))", size, 0, 0, 0);
            so(size >= 4, "Ezexzeyxezyz=z", size, 0, 0, 0);
            so(size >= 3, "EzEyEx(x<y&y<z)", size, size - 1, 0, 0);
        }
    }

    private static void sixQuantifiers() {
        so(true, "AxExAxExAxExx=x", 5, 0, 0, 0);
        so(true, "AxEyaxyexyAzExx=x", 5, 4, 4, 4);
        so(false, "AxAyAzAxAyAz(x<y|y=z)", 5, 0, 0, 0);
        so(true, "(AxExx=x&(AxExx=x|AxAxx=x))", 5, 0, 0, 0);
        tooMany("(AxExx=x&(AxExx=x|AxAxAxx=x))");
        for (String seventh : new String[] {"Ax", "Ex", "axx", "exx"}) {
            tooMany(seventh + "AxEyaxyexyAzExx=x");
            so(!seventh.equals("exx"), seventh.repeat(6) + "x=x", 1, 0, 0, 0);
            tooMany(seventh.repeat(7) + "x=x");
        }
        Trial court = Trial.ofNew();
        court.page("AxExAxExAxExAxx=x").due(Trial.BAD_STATE, "isSo", 1, 0, 0, 0);
        court.page("AxExAxExAxExx=x").due(true, "isSo", 1, 0, 0, 0);
        court.principle("AxExAxExAxExx=x").page("Exx<x").due(false, "isSo", 1, 0, 0, 0);
    }

    private static void tooMany(String page) {
        Trial.ofNew().type(page).due(page.length(), "fault")
                .due(Trial.BAD_STATE, "isSo", 1, 0, 0, 0).due(page.length(), "blank");
    }

    private static void wrongNumbers() {
        for (String page : new String[] {"x<y", "", "AxExAxExAxExAxx=x"}) {
            Trial court = Trial.ofNew().type(page);
            for (int size : new int[] {0, 6, -1, Integer.MAX_VALUE, Integer.MIN_VALUE}) {
                court.due(Trial.BAD_ARGUMENT, "isSo", size, 0, 0, 0);
            }
            for (int size = 1; size <= LARGEST_WORLD; size++) {
                for (int off : new int[] {-1, size, 5, Integer.MAX_VALUE, Integer.MIN_VALUE}) {
                    court.due(Trial.BAD_ARGUMENT, "isSo", size, off, 0, 0);
                    court.due(Trial.BAD_ARGUMENT, "isSo", size, 0, off, 0);
                    court.due(Trial.BAD_ARGUMENT, "isSo", size, 0, 0, off);
                }
            }
            court.due(page.length(), "blank");
        }
        Trial court = Trial.ofNew().type("x<y");
        court.due(true, "isSo", 5, 3, 4, 4).due(false, "isSo", 1, 0, 0, 0).due(3, "fault");
    }
}
