/** The sentences on a page that name a boundary case: what a formula is, promises 2 to 4. */
public final class PageBoundsTest {
    private static final String LETTERS = "xyzAEae!()&|><=";
    private static final String VARIABLES = "xyz";
    /** Signs that stand next to a letter, or are one to who keeps but some bits of them. */
    private static final String NO_LETTERS = "w{@BDF`bdf \"'*%};?XYZ0\t\n\u0000\uffff"
            + "\u0178\u0141\u0121\u0128\u8078\uff41\u2227\u2228\u00ac\u2264";
    private static final int MOST = 40;

    private PageBoundsTest() {
    }

    public static void main(String[] args) {
        atMostForty();
        variables();
        atoms();
        bangs();
        parentheses();
        quantifiers();
        boundedQuantifiers();
        howManyLetters();
        anotherLetter();
        fortyLetters();
        blankedPages();
        faultPlaces();
        faultsBehindFormulas();
        longerThanAPage();
        noFault();
        Trial.end();
    }

    private static void formula(boolean due, String letters) {
        Trial court = Trial.ofNew().type(letters);
        Trial.check(due, !court.ask("sigma").equals(Trial.NONE), letters + " is a formula");
    }

    private static void faultAt(int due, String letters) {
        Trial court = Trial.ofNew().type(letters);
        Trial.check(due, court.ask("fault"), "fault() of " + letters);
    }

    private static void atMostForty() {
        Trial.sentence("A PAGE is typed letter by letter, at most 40, of these:"
                + " x y z A E a e ! ( ) & | > < =");
        for (char letter : LETTERS.toCharArray()) {
            Trial court = Trial.ofNew();
            for (int place = 1; place <= MOST; place++) {
                court.due(place, "letter", letter);
            }
            court.due(Trial.BAD_STATE, "letter", letter).due(MOST, "blank");
            court.due(1, "letter", letter);
        }
    }

    private static void variables() {
        Trial.sentence("A VARIABLE is x, y or z.");
        for (char letter : LETTERS.toCharArray()) {
            boolean isVariable = VARIABLES.indexOf(letter) >= 0;
            formula(isVariable, letter + "<x");
            formula(isVariable, "x<" + letter);
            formula(isVariable, "A" + letter + "x<y");
            formula(isVariable, "E" + letter + "x<y");
            formula(isVariable, "a" + letter + "yx<y");
            formula(isVariable, "ay" + letter + "x<y");
            formula(isVariable, "e" + letter + "yx<y");
            formula(isVariable, "ey" + letter + "x<y");
        }
        Trial.ofNew().due(Trial.BAD_ARGUMENT, "letter", 'w').due(Trial.BAD_ARGUMENT, "letter", '{')
                .due(Trial.BAD_ARGUMENT, "letter", 'X').due(Trial.BAD_ARGUMENT, "letter", 'Z');
    }

    private static void atoms() {
        Trial.sentence("an ATOM: a VARIABLE, < or =, and a VARIABLE");
        for (char letter : LETTERS.toCharArray()) {
            formula(letter == '<' || letter == '=', "x" + letter + "y");
            formula(false, "x=x" + letter);
        }
        for (String short_ : new String[] {"x", "<", "x<", "<x", "xx", "=="}) {
            formula(false, short_);
        }
    }

    private static void bangs() {
        Trial.sentence("! and a FORMULA");
        formula(false, "!");
        formula(false, "!!");
        formula(false, "!x");
        formula(false, "x<!y");
        formula(false, "x<y!");
        for (int bangs = 1; bangs <= 37; bangs++) {
            formula(true, "!".repeat(bangs) + "x<y");
        }
        formula(false, "!".repeat(38) + "x<");
    }

    private static void parentheses() {
        Trial.sentence("(, a FORMULA, one of & | >, a FORMULA, and )");
        for (char letter : LETTERS.toCharArray()) {
            formula("&|>".indexOf(letter) >= 0, "(x<y" + letter + "y<z)");
            formula(letter == ')', "(x<y&y<z" + letter);
        }
        for (String none : new String[] {"(", "()", "(x<y)", "(x<y&)", "(&x<y)", "(x<y&y<z",
            "x<y&y<z", "x<y&y<z)", "(x<y&y<z))", "((x<y&y<z))", "(x<y&y<z&z<x)"}) {
            formula(false, none);
        }
        String nested = "x=x";
        while (nested.length() + 6 <= MOST) {
            formula(true, "(" + nested + "&y<y)");
            formula(true, "(y<y>" + nested + ")");
            nested = "(" + nested + "|z<z)";
        }
        formula(true, "!" + nested);
        formula(false, "(" + nested);
        formula(false, nested + ")");
    }

    private static void quantifiers() {
        Trial.sentence("A or E, a VARIABLE, and a FORMULA");
        for (String quantifier : new String[] {"A", "E"}) {
            formula(false, quantifier);
            formula(false, quantifier + "x");
            formula(false, quantifier + "x<y");
            formula(false, quantifier + "xyx<y");
            formula(true, quantifier + "xx<y");
            formula(true, (quantifier + "z").repeat(18) + "x<y");
            formula(true, (quantifier + "z").repeat(18) + "!x<y");
            formula(false, (quantifier + "z").repeat(19) + "x<");
        }
    }

    private static void boundedQuantifiers() {
        Trial.sentence("a or e, a VARIABLE, a second VARIABLE, and a FORMULA ..."
                + " also if both are the same VARIABLE");
        for (String quantifier : new String[] {"a", "e"}) {
            formula(false, quantifier);
            formula(false, quantifier + "x");
            formula(false, quantifier + "xy");
            formula(false, quantifier + "xx<y");
            formula(false, quantifier + "xyzx<y");
            formula(true, quantifier + "xyx<y");
            formula(true, quantifier + "xxx<y");
            formula(true, quantifier + "zzz<z");
            formula(true, (quantifier + "zz").repeat(12) + "!x<y");
            formula(false, (quantifier + "zz").repeat(13) + "x");
        }
    }

    private static void howManyLetters() {
        Trial.sentence("Promise 2: Returns how many letters it has.");
        Trial court = Trial.ofNew();
        for (int page = 0; page < 3; page++) {
            for (int place = 1; place <= MOST; place++) {
                court.due(place, "letter", LETTERS.charAt((place + page) % LETTERS.length()));
            }
            court.due(MOST, "blank");
        }
        court.due(1, "letter", 'E').due(Trial.BAD_ARGUMENT, "letter", 'B').due(2, "letter", 'x');
        court.due(3, "letter", 'x').due(4, "letter", '=').due(5, "letter", 'x');
        court.due(0, "principle").due(1, "letter", ')');
    }

    private static void anotherLetter() {
        Trial.sentence("Promise 2: Throws IllegalArgumentException if letter is another one");
        for (String page : new String[] {"", "x", "x<y", "!".repeat(39), "!".repeat(40)}) {
            Trial court = Trial.ofNew().type(page);
            for (char sign : NO_LETTERS.toCharArray()) {
                court.due(Trial.BAD_ARGUMENT, "letter", sign);
            }
            court.due(page.length(), "fault").due(page.length(), "blank");
        }
    }

    private static void fortyLetters() {
        Trial.sentence("Promise 2: Throws IllegalStateException if it has 40");
        for (String page : new String[] {"!".repeat(37) + "x<y", "!".repeat(40), ")".repeat(40)}) {
            Trial court = Trial.ofNew().type(page.substring(0, 38));
            court.due(39, "letter", page.charAt(38)).due(40, "letter", page.charAt(39));
            Object fault = court.ask("fault");
            Object sigma = court.ask("sigma");
            for (char letter : LETTERS.toCharArray()) {
                court.due(Trial.BAD_STATE, "letter", letter);
            }
            court.due(fault, "fault").due(sigma, "sigma").due(40, "blank").due(1, "letter", 'x');
        }
    }

    private static void blankedPages() {
        Trial.sentence("Promise 3: Makes the PAGE empty. Returns how many letters it had.");
        String[] pages = {"!".repeat(37) + "x<y", "x<y".repeat(14), "(".repeat(40)};
        for (String page : pages) {
            for (int length = 0; length <= MOST; length++) {
                Trial court = Trial.ofNew().type(page.substring(0, length)).due(length, "blank");
                court.due(0, "fault").due(Trial.NONE, "sigma").due(Trial.NONE, "free");
                court.due(0, "blank").type("y<z").due(3, "fault").due(6, "free");
            }
        }
    }

    private static void faultPlaces() {
        Trial.sentence("Promise 4: Returns the place, from 0, of the first letter of the PAGE"
                + " that no FORMULA has there behind those ahead of it");
        for (int place = 0; place < MOST; place++) {
            String clean = "!".repeat(place);
            faultAt(place, clean + "<");
            faultAt(place, clean + ")" + "x".repeat(MOST - 1 - place));
            faultAt(place, clean + "=" + ")".repeat(MOST - 1 - place));
        }
        for (char letter : ")&|><=".toCharArray()) {
            faultAt(0, letter + "x<y");
            faultAt(1, "!" + letter + "x<y");
        }
        faultAt(39, "!".repeat(38) + "xx");
        faultAt(39, "(".repeat(39) + ")");
        faultsOfEachKind();
    }

    /** Ahead of each kind of place, and the letters that some formula has there. */
    private static void faultsOfEachKind() {
        String[] ahead = {"", "x", "z<", "A", "E", "a", "e", "ay", "ey", "!", "(", "Ax", "axy",
            "(x<y", "(x<y&", "(x<y&x<y", "x<y", "(x<y>y=z)", "!!x=x", "Axx=x"};
        String starts = "xyzAEae!(";
        String[] letters = {starts, "<=", VARIABLES, VARIABLES, VARIABLES, VARIABLES, VARIABLES,
            VARIABLES, VARIABLES, starts, starts, starts, starts,
            "&|>", starts, ")", "", "", "", ""};
        for (int place = 0; place < ahead.length; place++) {
            for (char letter : LETTERS.toCharArray()) {
                boolean some = letters[place].indexOf(letter) >= 0;
                int length = ahead[place].length();
                faultAt(some ? length + 1 : length, ahead[place] + letter);
            }
        }
    }

    private static void faultsBehindFormulas() {
        Trial.sentence("Promise 4: no FORMULA has a letter there behind one that is whole");
        for (char letter : LETTERS.toCharArray()) {
            faultAt(3, "x<y" + letter);
            faultAt(5, "Axx<y" + letter);
            faultAt(9, "(x<y&y<z)" + letter);
            faultAt(39, "!".repeat(36) + "x<y" + letter);
        }
        faultAt(3, "x<y".repeat(13) + "x");
    }

    private static void longerThanAPage() {
        Trial.sentence("Promise 4: be it longer than a PAGE, too");
        String[] starts = {"!", "(", "Ax", "Ez", "axy", "exx", "(x<y&", "!(", "((z=z|", "(!Ax"};
        for (String start : starts) {
            String page = start.repeat(MOST).substring(0, MOST);
            faultAt(MOST, page);
            formula(false, page);
        }
        faultAt(MOST, "!".repeat(39) + "x");
        faultAt(MOST, "!".repeat(38) + "x<");
        faultAt(MOST, "(".repeat(37) + "x<y");
        faultAt(MOST, "(".repeat(36) + "x<y&");
    }

    private static void noFault() {
        Trial.sentence("Promise 4: how many letters it has, if there is none such");
        faultAt(0, "");
        String page = "(!AxEy(axyx<z|ezzy=z)>((x<y&x=x)|z=y))";
        for (int length = 1; length <= page.length(); length++) {
            faultAt(length, page.substring(0, length));
        }
        faultAt(39, "!" + page);
        faultAt(40, "!!" + page);
        formula(true, "!!" + page);
        faultAt(page.length(), page + "x");
    }
}
