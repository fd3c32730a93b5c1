/** The sentences on games that name a boundary case: promises 25 and 26. */
public final class GameBoundsTest {
    private static final int MOST_ROUNDS = 4;
    private static final String[] BOTH = {"has", "hasAnew"};

    private GameBoundsTest() {
    }

    public static void main(String[] args) {
        rounds();
        roundsOutOfRange();
        sets();
        setsOutOfRange();
        whoSays();
        whatIsSaidMakesANumber();
        numberInTheSet();
        whateverSecondSays();
        secondLookedAt();
        Trial.end();
    }

    private static void game(boolean due, int rounds, int set) {
        Trial court = Trial.ofNew();
        for (String call : BOTH) {
            court.due(due, call, rounds, set);
        }
    }

    private static int sets(int rounds) {
        return 1 << (1 << rounds);
    }

    private static void rounds() {
        Trial.sentence("A GAME has 1 to 4 rounds");
        game(true, 1, 3);
        game(true, 2, 3);
        game(false, 3, 3);
        game(false, 4, 3);
        game(false, 2, 5);
        game(true, 3, 5);
        game(false, 4, 5);
        game(false, 3, 0x33);
        game(true, 4, 0x33);
    }

    private static void roundsOutOfRange() {
        Trial.sentence("Promises 25, 26: Throws IllegalArgumentException if rounds ... is out of"
                + " range");
        Trial court = Trial.ofNew();
        for (int off : Edges.outside(1, MOST_ROUNDS)) {
            for (String call : BOTH) {
                for (int set : new int[] {0, 1, 3, 65535, -1, Edges.HIGHEST}) {
                    court.due(Trial.BAD_ARGUMENT, call, off, set);
                }
            }
        }
    }

    private static void sets() {
        Trial.sentence("Promises 25, 26: set: 0 to less than 2 to the power of 2 to the power of"
                + " rounds");
        game(false, 1, 0);
        game(true, 1, 3);
        game(false, 2, 0);
        game(true, 2, 15);
        game(false, 3, 0);
        game(true, 3, 255);
        game(false, 4, 0);
        game(true, 4, 65535);
    }

    private static void setsOutOfRange() {
        Trial.sentence("Promises 25, 26: Throws IllegalArgumentException if ... set is out of"
                + " range");
        for (int rounds = 1; rounds <= MOST_ROUNDS; rounds++) {
            Trial court = Trial.ofNew();
            for (int off : Edges.noSets(1 << rounds)) {
                for (String call : BOTH) {
                    court.due(Trial.BAD_ARGUMENT, call, rounds, off);
                }
            }
            for (String call : BOTH) {
                court.due(Trial.BAD_ARGUMENT, call, rounds, sets(rounds));
                court.due(true, call, rounds, sets(rounds) - 1);
            }
        }
    }

    /** What the set asks to be said in one round alone is said there by FIRST, or by SECOND. */
    private static void whoSays() {
        Trial.sentence("in each 0 or 1 is said, by FIRST in the rounds 0 and 2, by SECOND in the"
                + " others");
        for (int rounds = 1; rounds <= MOST_ROUNDS; rounds++) {
            for (int round = 0; round < rounds; round++) {
                for (int wanted = 0; wanted < 2; wanted++) {
                    int set = 0;
                    for (int number = 0; number < 1 << rounds; number++) {
                        boolean so = (number >> rounds - 1 - round & 1) == wanted;
                        set |= so ? 1 << number : 0;
                    }
                    game(round == 0 || round == 2, rounds, set);
                }
            }
        }
    }

    private static void whatIsSaidMakesANumber() {
        Trial.sentence("What is said makes a number: twice what there is, and what is said, from 0"
                + " on.");
        game(true, 2, 3);
        game(true, 2, 12);
        game(false, 2, 5);
        game(false, 2, 10);
        game(false, 2, 6);
        game(false, 2, 9);
        game(true, 3, 1 | 1 << 2);
        game(true, 3, 1 << 1 | 1 << 3);
        game(true, 3, 1 << 4 | 1 << 7);
        game(false, 3, 1 | 1 << 1);
        game(false, 3, 1 << 2 | 1 << 4);
        game(true, 4, 0x0033);
        game(true, 4, 0xcc00);
        game(false, 4, 0x0055);
        game(false, 4, 0x0f0f & 0x00ff);
    }

    private static void numberInTheSet() {
        Trial.sentence("FIRST wins, if that number is in the set of the GAME, as bits, at last.");
        game(true, 1, 1);
        game(true, 1, 2);
        for (int rounds = 2; rounds <= MOST_ROUNDS; rounds++) {
            for (int number = 0; number < 1 << rounds; number++) {
                game(false, rounds, 1 << number);
                game(true, rounds, sets(rounds) - 1 - (1 << number));
            }
        }
    }

    private static void whateverSecondSays() {
        Trial.sentence("FIRST HAS it, if FIRST can win whatever SECOND says.");
        for (int set = 0; set < 16; set++) {
            game((set & 3) == 3 || (set & 12) == 12, 2, set);
        }
        for (int zero = 0; zero < 4; zero++) {
            for (int one = 0; one < 4; one++) {
                game(zero != 0 && one != 0, 3, zero | one << 2);
                game(zero != 0 && one != 0, 3, (zero | one << 2) << 4);
                game(zero == 3 && one == 3, 4, zero << 2 | one << 4);
                game(zero == 3 && one == 3, 4, (zero | one << 6) << 8);
            }
        }
    }

    private static void secondLookedAt() {
        Trial.sentence("Promise 26: by all that FIRST can plan to say ahead, what SECOND said by"
                + " then being looked at, against all that SECOND can say");
        game(true, 3, 1 << 0 | 1 << 3);
        game(true, 3, 1 << 1 | 1 << 2);
        game(true, 3, 1 << 4 | 1 << 7);
        game(true, 3, 1 << 5 | 1 << 6);
        game(false, 3, 1 << 0 | 1 << 7);
        game(false, 3, 1 << 1 | 1 << 6);
        game(true, 4, 0x00c3);
        game(true, 4, 0x003c);
        game(true, 4, 0xc300);
        game(true, 4, 0x3c00);
        game(false, 4, 0xc003);
        game(false, 4, 0x0082);
        game(false, 4, 0x0043);
        game(false, 4, 0x00c1);
    }
}
