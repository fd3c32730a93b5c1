/** The sentences on principles, rules and models with a boundary case: promises 9 to 12, 18. */
public final class PrincipleBoundsTest {
    private static final int MOST = 10;
    private static final int MOST_RULES = 30;
    private static final int MOST_MODELS = 10;
    private static final int ALL = 1023;

    private PrincipleBoundsTest() {
    }

    public static void main(String[] args) {
        tenPrinciples();
        noFreeVariables();
        classesOfPrinciples();
        emptyPageThen();
        noFormula();
        premisesMayBeEmpty();
        conclusionAmongPremises();
        conclusionsOutOfRange();
        premisesOutOfRange();
        thirtyRules();
        brokenByModel();
        brokenByTheFirstOrLastModel();
        setsOfModels();
        modelsOutOfRange();
        tenModels();
        modelsBreakNone();
        breaksTheFirstOrLastRule();
        laterPrinciples();
        toldAgain();
        theSetItself();
        asLongAsThereAreSuch();
        setsOutOfRange();
        whatIsTold();
        countsOfRules();
        countsOfModels();
        Trial.end();
    }

    // ---- principle

    private static void tenPrinciples() {
        Trial.sentence("PRINCIPLES are numbered from 0, at most 10"
                + " / Promise 9: Throws IllegalStateException if ... there are 10");
        Trial court = Trial.ofNew();
        for (int number = 0; number < MOST; number++) {
            court.due(Trial.OUT_OF_BOUNDS, "ofPrinciple", number, 0);
            court.type("Axx=x").due(number, "principle").due(2, "ofPrinciple", number, 0);
        }
        court.type("Axx=x").due(Trial.BAD_STATE, "principle").due(Trial.BAD_STATE, "principle");
        court.due(5, "fault").due(2, "sigma").due(5, "blank");
        court.due(Trial.OUT_OF_BOUNDS, "ofPrinciple", MOST, 0).due(ALL, "proves", ALL);
        court.due(90, "open");
    }

    private static void noFreeVariables() {
        Trial.sentence("each a FORMULA without FREE VARIABLES"
                + " / Promise 9: Throws IllegalStateException if ... it has FREE VARIABLES");
        for (String free : new String[] {"x=x", "y=y", "z=z", "Axx=y", "Axx=z", "Ayx=y", "Ezx<z",
            "axxx=x", "eyyy=y", "azzz=z", "Axaxyx=x", "(Axx=x&z=z)", "(y=y>Axx=x)", "!x<x",
            "AxAyz=z"}) {
            Trial court = Trial.ofNew().type(free).due(Trial.BAD_STATE, "principle");
            court.due(free.length(), "fault").due(Trial.OUT_OF_BOUNDS, "ofPrinciple", 0, 0);
            court.due(free.length(), "blank").type("Axx=x").due(0, "principle");
        }
        for (String closed : new String[] {"Axx=x", "Eyy<y", "Azaxzx=x", "Axexxx=x",
            "(Axx=x&Ezz=z)", "!AxEyx<y", "AxAyAz(x=y|y=z)"}) {
            Trial.ofNew().type(closed).due(0, "free").due(0, "principle");
        }
    }

    private static void classesOfPrinciples() {
        Trial.sentence("PRINCIPLES ..., whose SIGMA and PI it has");
        Trial court = Trial.ofNew();
        String[] pages = {"Exx=x", "Axx=x", "(Exx=x&Axx=x)", "AxEy".repeat(9) + "x=y",
            "ExAy".repeat(9) + "x=y", "!" + "ExAy".repeat(9) + "x=y"};
        int[] sigmas = {1, 2, 2, 19, 18, 19};
        int[] pis = {2, 1, 2, 18, 19, 18};
        for (int number = 0; number < pages.length; number++) {
            court.type(pages[number]).due(sigmas[number], "sigma").due(pis[number], "pi");
            court.due(number, "principle");
        }
        for (int number = 0; number < pages.length; number++) {
            court.due(sigmas[number], "ofPrinciple", number, 0);
            court.due(pis[number], "ofPrinciple", number, 1);
        }
    }

    private static void emptyPageThen() {
        Trial.sentence("Promise 9: Makes the PAGE a PRINCIPLE; the PAGE is empty then.");
        for (String page : new String[] {"Axx=x", "!".repeat(35) + "Axx=x"}) {
            Trial court = Trial.ofNew().type(page).due(0, "principle").due(0, "fault");
            court.due(Trial.NONE, "sigma").due(Trial.NONE, "pi").due(Trial.NONE, "free");
            court.due(Trial.BAD_STATE, "isSo", 1, 0, 0, 0).due(0, "blank");
            court.due(Trial.BAD_STATE, "principle").type("!".repeat(40)).due(40, "blank");
        }
        Trial.ofNew().principles(1).due(1, "letter", 'x').type("=x").due(1, "free");
    }

    private static void noFormula() {
        Trial.sentence("Promise 9: Throws IllegalStateException if the PAGE is no FORMULA");
        for (String page : new String[] {"", "A", "Ax", "Axx", "Axx=", "Axx=xx", "Axx=x)", "!",
            "(Axx=x)", "(Axx=x&Exx=x", "axy", ")", "Axx=xAxx=x", "!".repeat(40)}) {
            Trial court = Trial.ofNew().type(page).due(Trial.BAD_STATE, "principle");
            court.due(Trial.OUT_OF_BOUNDS, "ofPrinciple", 0, 0).due(page.length(), "blank");
        }
    }

    // ---- rule

    private static void premisesMayBeEmpty() {
        Trial.sentence("A RULE has a set as premises, which may be empty");
        Trial court = Trial.ofNew().principles(1).due(0, "proves", 0).due(0, "rule", 0, 0);
        court.due(1, "proves", 0).due(0, "proof", 0, 0, 0);
        court = Trial.ofNew().principles(10).due(0, "rule", 511, 9).due(1, "rule", 1022, 0);
        court.due(1023, "proves", 511).due(1023, "proves", 1022).due(510, "proves", 510);
    }

    private static void conclusionAmongPremises() {
        Trial.sentence("a conclusion that is not one of these"
                + " / Promise 10: Throws IllegalArgumentException if premises ... has the"
                + " conclusion");
        Trial court = Trial.ofNew().principles(10);
        for (int conclusion = 0; conclusion < 10; conclusion++) {
            court.due(Trial.BAD_ARGUMENT, "rule", 1 << conclusion, conclusion);
            court.due(Trial.BAD_ARGUMENT, "rule", ALL, conclusion);
            court.due(Trial.BAD_ARGUMENT, "rule", 1 << conclusion | 1, conclusion);
            court.due(conclusion, "rule", ALL - (1 << conclusion), conclusion);
        }
    }

    private static void conclusionsOutOfRange() {
        Trial.sentence("Promise 10: Throws IndexOutOfBoundsException if there is no PRINCIPLE"
                + " with the number conclusion");
        for (int howMany : new int[] {0, 1, 2, 9, 10}) {
            Trial court = Trial.ofNew().principles(howMany);
            for (int off : Edges.noneOf(howMany)) {
                court.due(Trial.OUT_OF_BOUNDS, "rule", 0, off);
                court.due(Trial.OUT_OF_BOUNDS, "rule", (1 << howMany) - 1, off);
            }
            for (int number = 0; number < howMany; number++) {
                court.due(number, "rule", 0, number);
            }
        }
    }

    private static void premisesOutOfRange() {
        Trial.sentence("Promise 10: Throws IllegalArgumentException if premises is out of range");
        for (int howMany : new int[] {1, 2, 9, 10}) {
            Trial court = Trial.ofNew().principles(howMany);
            for (int off : Edges.noSets(howMany)) {
                court.due(Trial.BAD_ARGUMENT, "rule", off, 0);
                court.due(Trial.BAD_ARGUMENT, "rule", off, howMany - 1);
            }
            court.due(0, "rule", (1 << howMany) - 2, 0);
            court.due(1, "rule", (1 << howMany - 1) - 1, howMany - 1);
        }
    }

    private static void thirtyRules() {
        Trial.sentence("RULES are numbered from 0, at most 30"
                + " / Promise 10: Throws IllegalStateException if there are 30");
        Trial court = Trial.ofNew().principles(3);
        for (int number = 0; number < MOST_RULES; number++) {
            court.due(number, "ofPrinciple", 2, 2);
            court.due(number, "rule", number % 2, 2);
        }
        court.due(Trial.BAD_STATE, "rule", 0, 2).due(Trial.BAD_STATE, "rule", 1, 1);
        court.due(30, "ofPrinciple", 2, 2).due(0, "ofPrinciple", 1, 2).due(5, "proves", 1);
        court.due(0, "model", 7).due(Trial.BAD_STATE, "model", 3);
    }

    private static void brokenByModel() {
        Trial.sentence("it BREAKS a RULE, if all premises are in it, and the conclusion is not"
                + " / Promise 10: Throws IllegalStateException if ... a MODEL BREAKS it");
        for (int model = 0; model < 8; model++) {
            Trial court = Trial.ofNew().principles(3).due(0, "model", model);
            int number = 0;
            for (int premises = 0; premises < 4; premises++) {
                boolean breaks = (model & premises) == premises && (model & 4) == 0;
                court.due(breaks ? Trial.BAD_STATE : (Object) number, "rule", premises, 2);
                number += breaks ? 0 : 1;
            }
            court.due(number, "ofPrinciple", 2, 2);
        }
        Trial.ofNew().principles(10).due(0, "model", 511).due(Trial.BAD_STATE, "rule", 511, 9)
                .due(Trial.BAD_STATE, "rule", 0, 9).due(0, "rule", 511 - 1, 0);
        Trial.ofNew().principles(10).due(0, "model", 510).due(0, "rule", 511, 9)
                .due(Trial.BAD_STATE, "rule", 510, 9).due(Trial.BAD_STATE, "rule", 0, 0);
    }

    private static void brokenByTheFirstOrLastModel() {
        Trial.sentence("Promise 10: ... a MODEL BREAKS it, be it the first or the last of 10");
        for (int breaking = 0; breaking < MOST_MODELS; breaking++) {
            Trial court = Trial.ofNew().principles(2);
            for (int number = 0; number < MOST_MODELS; number++) {
                court.due(number, "model", number == breaking ? 1 : 3);
            }
            court.due(Trial.BAD_STATE, "rule", 1, 1).due(0, "ofPrinciple", 1, 2);
            court.due(0, "rule", 2, 0);
        }
    }

    // ---- model

    private static void setsOfModels() {
        Trial.sentence("A MODEL is a set / Sets of PRINCIPLES are told by bits.");
        Trial.ofNew().due(0, "model", 0).due(1, "model", 0);
        Trial court = Trial.ofNew().principles(10);
        for (int number = 0; number < 10; number++) {
            court.due(number, "model", number == 9 ? ALL : 1 << number);
        }
        for (int number = 0; number < 10; number++) {
            court.due(number == 9 ? 1 : 2, "ofPrinciple", number, 3);
        }
    }

    private static void modelsOutOfRange() {
        Trial.sentence("Promise 11: Throws IllegalArgumentException if set is out of range");
        for (int howMany : new int[] {0, 1, 2, 9, 10}) {
            Trial court = Trial.ofNew().principles(howMany);
            for (int off : Edges.noSets(howMany)) {
                court.due(Trial.BAD_ARGUMENT, "model", off);
            }
            court.due(0, "model", (1 << howMany) - 1).due(1, "model", 0);
        }
    }

    private static void tenModels() {
        Trial.sentence("MODELS are numbered from 0, at most 10"
                + " / Promise 11: Throws IllegalStateException if there are 10");
        Trial court = Trial.ofNew().principles(2);
        for (int number = 0; number < MOST_MODELS; number++) {
            court.due(number, "ofPrinciple", 0, 3).due(number, "model", 1);
        }
        court.due(Trial.BAD_STATE, "model", 1).due(Trial.BAD_STATE, "model", 0);
        court.due(Trial.BAD_STATE, "model", 3).due(10, "ofPrinciple", 0, 3);
        court.due(0, "ofPrinciple", 1, 3).due(ReversalCourt.DOES_NOT, "known", 0, 1);
    }

    private static void modelsBreakNone() {
        Trial.sentence("none BREAKS a RULE"
                + " / Promise 11: Throws IllegalStateException if ... it BREAKS a RULE");
        for (int premises = 0; premises < 4; premises++) {
            Trial court = Trial.ofNew().principles(3).due(0, "rule", premises, 2);
            int number = 0;
            for (int set = 0; set < 8; set++) {
                boolean breaks = (set & premises) == premises && (set & 4) == 0;
                court.due(breaks ? Trial.BAD_STATE : (Object) number, "model", set);
                number += breaks ? 0 : 1;
            }
        }
        Trial.ofNew().principles(10).due(0, "rule", 511, 9).due(Trial.BAD_STATE, "model", 511)
                .due(0, "model", 510).due(1, "model", ALL).due(2, "model", 255).due(3, "model", 0);
    }

    private static void breaksTheFirstOrLastRule() {
        Trial.sentence("Promise 11: ... it BREAKS a RULE, be it the first or the last of 30");
        for (int broken : new int[] {0, 1, 14, 28, 29}) {
            Trial court = Trial.ofNew().principles(3);
            for (int number = 0; number < MOST_RULES; number++) {
                court.due(number, "rule", number == broken ? 2 : 1, 2);
            }
            court.due(Trial.BAD_STATE, "model", 2).due(Trial.BAD_STATE, "model", 1);
            court.due(Trial.BAD_STATE, "model", 3).due(0, "model", 6).due(1, "model", 0);
        }
    }

    private static void laterPrinciples() {
        Trial.sentence("PRINCIPLES that come later are in none that was told ahead of them");
        Trial court = Trial.ofNew().due(0, "model", 0);
        for (int number = 0; number < MOST - 1; number++) {
            court.principles(1).due(0, "ofPrinciple", number, 3);
            court.due(Trial.BAD_STATE, "rule", 0, number);
            court.due(number + 1, "model", (2 << number) - 1).due(1, "ofPrinciple", number, 3);
        }
        court.principles(1).due(0, "ofPrinciple", 9, 3);
        for (int number = 0; number < MOST - 1; number++) {
            court.due(ReversalCourt.DOES_NOT, "known", number, 9);
            court.due(ReversalCourt.OPEN, "known", 9, number);
            court.due(Trial.BAD_STATE, "rule", 1 << number, 9);
        }
        court.due(0, "rule", 512, 0);
    }

    private static void toldAgain() {
        Trial.sentence("A FORMULA, a RULE, a set can be told again as another PRINCIPLE, RULE,"
                + " MODEL.");
        Trial court = Trial.ofNew().principles(3);
        court.due(0, "rule", 1, 1).due(1, "rule", 1, 1).due(2, "rule", 0, 2).due(3, "rule", 0, 2);
        court.due(4, "rule", 1, 1).due(0, "model", 7).due(1, "model", 7).due(2, "model", 6);
        court.due(3, "model", 6).due(4, "model", 7);
        court.due(3, "ofPrinciple", 1, 2).due(2, "ofPrinciple", 2, 2);
        court.due(3, "ofPrinciple", 0, 3).due(5, "ofPrinciple", 1, 3);
        court.due(ReversalCourt.DOES_NOT, "known", 1, 0).due(4, "proves", 0).due(7, "proves", 1);
    }

    // ---- proves

    private static void theSetItself() {
        Trial.sentence("What a set PROVES: the set");
        Trial.ofNew().due(0, "proves", 0);
        Trial court = Trial.ofNew().principles(10);
        for (int set : new int[] {0, 1, 2, 512, 513, 1022, ALL}) {
            court.due(set, "proves", set);
        }
        court.due(0, "rule", 3, 2);
        for (int set : new int[] {0, 1, 2, 4, 512, ALL, ALL - 1, ALL - 2}) {
            court.due(set, "proves", set);
        }
    }

    private static void asLongAsThereAreSuch() {
        Trial.sentence("and, as long as there are such, the conclusions of RULES all premises of"
                + " which are there");
        Trial court = Trial.ofNew().principles(10);
        for (int rule = 0; rule < 9; rule++) {
            court.due(rule, "rule", 1 << 9 - rule, 8 - rule);
        }
        for (int number = 0; number < 10; number++) {
            court.due((2 << number) - 1, "proves", 1 << number);
        }
        court = Trial.ofNew().principles(10);
        for (int rule = 0; rule < 9; rule++) {
            court.due(rule, "rule", (1 << 9 - rule) - 1, 9 - rule);
        }
        court.due(ALL, "proves", 1).due(0, "proves", 0).due(ALL - 1, "proves", ALL - 1);
        court.due(514, "proves", 514).due(9, "rule", 0, 0).due(ALL, "proves", 0);
        court = Trial.ofNew().principles(2);
        for (int rule = 0; rule < 29; rule++) {
            court.due(rule, "rule", 2, 0);
        }
        court.due(29, "rule", 1, 1).due(3, "proves", 1).due(3, "proves", 2).due(0, "proves", 0);
    }

    private static void setsOutOfRange() {
        Trial.sentence("Promise 12: Throws IllegalArgumentException if set is out of range");
        for (int howMany : new int[] {0, 1, 2, 9, 10}) {
            Trial court = Trial.ofNew().principles(howMany);
            for (int off : Edges.noSets(howMany)) {
                court.due(Trial.BAD_ARGUMENT, "proves", off);
            }
            court.due((1 << howMany) - 1, "proves", (1 << howMany) - 1);
        }
    }

    // ---- ofPrinciple

    private static void whatIsTold() {
        Trial.sentence("Promise 18: what: 0 to 3 / Throws IndexOutOfBoundsException if there is no"
                + " such PRINCIPLE / Throws IllegalArgumentException if what is out of range");
        for (int howMany : new int[] {0, 1, 9, 10}) {
            Trial court = Trial.ofNew().principles(howMany);
            for (int off : Edges.noneOf(howMany)) {
                court.due(Trial.OUT_OF_BOUNDS, "ofPrinciple", off, 0);
                court.due(Trial.OUT_OF_BOUNDS, "ofPrinciple", off, 3);
                court.due(Trial.OUT_OF_BOUNDS, "ofPrinciple", off, 4);
                court.due(Trial.OUT_OF_BOUNDS, "ofPrinciple", off, -1);
            }
            for (int off : Edges.noneOf(4)) {
                court.due(howMany == 0 ? Trial.OUT_OF_BOUNDS : Trial.BAD_ARGUMENT,
                        "ofPrinciple", Math.max(howMany - 1, 0), off);
            }
        }
        Trial.ofNew().principles(1).due(2, "ofPrinciple", 0, 0).due(1, "ofPrinciple", 0, 1)
                .due(0, "ofPrinciple", 0, 2).due(0, "ofPrinciple", 0, 3);
    }

    private static void countsOfRules() {
        Trial.sentence("Promise 18: 2 how many RULES conclude it, none to 30");
        Trial court = Trial.ofNew().principles(10).due(0, "ofPrinciple", 0, 2);
        for (int rule = 0; rule < MOST_RULES; rule++) {
            court.due(rule, "rule", 512, rule < 20 ? 0 : 8).due(0, "ofPrinciple", 9, 2);
        }
        court.due(20, "ofPrinciple", 0, 2).due(10, "ofPrinciple", 8, 2);
        court = Trial.ofNew().principles(10);
        for (int rule = 0; rule < MOST_RULES; rule++) {
            court.due(rule, "rule", 1, 9);
        }
        court.due(30, "ofPrinciple", 9, 2).due(0, "ofPrinciple", 0, 2);
    }

    private static void countsOfModels() {
        Trial.sentence("Promise 18: 3 how many MODELS have it, none to 10");
        Trial court = Trial.ofNew().principles(10);
        for (int model = 0; model < MOST_MODELS; model++) {
            court.due(model, "ofPrinciple", 9, 3).due(model, "model", 512 | 1 << model);
            court.due(0, "ofPrinciple", 9, 2);
        }
        court.due(10, "ofPrinciple", 9, 3);
        for (int number = 0; number < 9; number++) {
            court.due(1, "ofPrinciple", number, 3);
        }
    }
}
