/** Promises 2 to 4: letter, blank, fault. */
public final class PageTest {
    private static final String LETTERS = "xyzAEae!()&|><=";
    private static final String STARTS = "xyzAEae!(";
    private static final String VARIABLES = "xyz";
    private static final String OPERATORS = "&|>";

    private PageTest() {
    }

    public static void main(String[] args) {
        everyLetter();
        everyOtherSign();
        fortyLetters();
        blanks();
        blanksAmidFormulas();
        faults();
        longPages();
        whatMayCome();
        Trial.end();
    }

    private static void everyLetter() {
        Trial court = Trial.ofNew();
        for (int place = 0; place < LETTERS.length(); place++) {
            court.due(place + 1, "letter", LETTERS.charAt(place));
        }
        court.due(LETTERS.length(), "blank");
    }

    private static void everyOtherSign() {
        for (int block = 0; block < 256; block++) {
            Trial court = Trial.ofNew();
            for (int sign = 256 * block; sign < 256 * block + 256; sign++) {
                if (LETTERS.indexOf(sign) < 0) {
                    court.due(Trial.BAD_ARGUMENT, "letter", (char) sign);
                }
            }
            court.due(0, "blank");
        }
    }

    private static void fortyLetters() {
        Trial court = Trial.ofNew().type("!".repeat(39));
        court.due(40, "letter", '!').due(Trial.BAD_STATE, "letter", '!');
        court.due(Trial.BAD_ARGUMENT, "letter", 'B').due(40, "fault");
        court.due(40, "blank").due(1, "letter", 'x');
        court = Trial.ofNew().type("x" + "=".repeat(39));
        court.due(Trial.BAD_STATE, "letter", 'x').due(2, "fault").due(40, "blank");
    }

    private static void blanks() {
        Trial court = Trial.ofNew();
        court.due(0, "blank").type("x<").due(2, "blank").due(0, "blank").due(0, "fault");
        court.type("))").due(0, "fault").due(2, "blank").type("x<y").due(3, "fault");
        court.due(0, "sigma").due(3, "blank").due(-1, "sigma").due(-1, "pi").due(-1, "free");
        court.due(1, "letter", '!').due(1, "fault");
    }

    /** Whatever stood half typed, the next page is read from its own letters alone. */
    private static void blanksAmidFormulas() {
        Trial court = Trial.ofNew();
        for (String half : new String[] {"Ax(x", "Ax(x<y&", "((x<y&!", "!(Exx<", "a", "(", "x)"}) {
            court.page(half).page("x<y").due(3, "fault").due(0, "sigma").due(3, "free");
            court.page(half).page("(Exx<z>!x=x)").due(12, "fault").due(2, "sigma").due(1, "pi");
            court.due(5, "free").page(half + "<").page("(x<y").due(4, "fault");
            court.due(Trial.NONE, "pi");
        }
    }

    private static void faults() {
        String[] pages = {
            "", "x", "x<", "x<y", "x<yx", "x<yy<z", "xx", "x=<", "<", ")", "&", "x!", "!!", "!)",
            "!x<y", "!x<y!", "(x<y)", "(x<y&z=z)", "(x<y&z=z", "(x<y&z=z)&", "((", "()", "(x<y<z)",
            "(x<y!", "(x<y>z=z>", "A", "AA", "Ax", "Axy", "Axy<z", "Ax<", "Ax)", "ax", "axy",
            "axyz", "axyz<x", "axA", "axyA", "axy<", "exx", "exxx=x", "exxx=xx", "ex!", "E(",
            "(!x<y|Azz=z)", "(axyx<y>(x=x&y=y))", "(axyx<y>(x=x&y=y)))", "x<yAEae!()&|><=",
        };
        int[] places = {
            0, 1, 2, 3, 3, 3, 1, 2, 0, 0, 0, 1, 2, 1,
            4, 4, 4, 9, 8, 9, 2, 1, 4,
            4, 8, 1, 1, 2, 3, 5, 2, 2, 2, 3,
            4, 6, 2, 4, 3, 3, 6, 6, 2, 1,
            12, 18, 18, 3,
        };
        Trial.check(pages.length, places.length, "places of the test");
        for (int page = 0; page < pages.length; page++) {
            Trial court = Trial.ofNew().type(pages[page]);
            Trial.check(places[page], court.ask("fault"), "fault() of " + pages[page]);
            Trial.check(pages[page].length(), court.ask("blank"), "blank() of " + pages[page]);
        }
    }

    /** A formula may be longer than a page, so these pages have no fault. */
    private static void longPages() {
        for (String start : new String[] {"!", "(", "Ax", "ezy!", "((x<y&"}) {
            String page = start.repeat(40).substring(0, 40);
            Trial.ofNew().type(page).due(40, "fault").due(Trial.NONE, "sigma");
        }
        Trial.ofNew().type("!".repeat(37) + "x<y").due(40, "fault").due(0, "sigma");
        Trial.ofNew().type("!".repeat(36) + "x<yy").due(39, "fault").due(Trial.NONE, "sigma");
    }

    /** Of all letters just those told may come behind what is there. */
    private static void whatMayCome() {
        String[] pages = {
            "", "x", "y<", "z=x", "!", "(", "(!", "(x<x", "(x<x&", "(x<x>x<x", "(x<x|x<x)",
            "A", "E", "Ax", "Ez", "a", "e", "ay", "ez", "axx", "eyz", "(!x<x", "(Axx=x", "(exyx=x",
            "((x<x|x=x)", "((x<x|x=x)&", "((x<x|x=x)&!!z=z", "Ax(x=y&Ezz<x", "axA", "x<xx", "!!!",
            "!(x<x|(",
        };
        String[] letters = {
            STARTS, "<=", VARIABLES, "", STARTS, STARTS, STARTS, OPERATORS, STARTS, ")", "",
            VARIABLES, VARIABLES, STARTS, STARTS, VARIABLES, VARIABLES, VARIABLES, VARIABLES,
            STARTS, STARTS, OPERATORS, OPERATORS, OPERATORS,
            OPERATORS, STARTS, ")", ")", "", "", STARTS,
            STARTS,
        };
        Trial.check(pages.length, letters.length, "letters of the test");
        for (int page = 0; page < pages.length; page++) {
            for (char letter : LETTERS.toCharArray()) {
                Trial court = Trial.ofNew().type(pages[page]);
                boolean clean = court.ask("fault").equals(pages[page].length());
                court.type(String.valueOf(letter));
                boolean taken = clean && court.ask("fault").equals(pages[page].length() + 1);
                Trial.check(letters[page].indexOf(letter) >= 0, taken,
                        letter + " may come behind " + pages[page]);
            }
        }
    }
}
