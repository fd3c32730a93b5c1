/** Promises 25 and 26: has, hasAnew. */
public final class GameTest {
    private static final String[] BOTH = {"has", "hasAnew"};

    private GameTest() {
    }

    public static void main(String[] args) {
        fewRounds();
        threeRounds();
        fourRounds();
        everyGame();
        wrongGames();
        Trial.end();
    }

    private static void game(boolean due, int rounds, int set) {
        Trial court = Trial.ofNew();
        for (String call : BOTH) {
            court.due(due, call, rounds, set);
        }
    }

    private static void fewRounds() {
        for (int set = 0; set < 4; set++) {
            game(set != 0, 1, set);
        }
        for (int set = 0; set < 16; set++) {
            game((set & 3) == 3 || (set & 12) == 12, 2, set);
        }
    }

    /** FIRST says one, SECOND one, FIRST one more, having heard SECOND. */
    private static void threeRounds() {
        for (int set = 0; set < 256; set++) {
            boolean zero = (set & 3) != 0 && (set & 12) != 0;
            boolean one = (set & 48) != 0 && (set & 192) != 0;
            game(zero || one, 3, set);
        }
    }

    private static void fourRounds() {
        game(false, 4, 0);
        game(true, 4, 65535);
        game(true, 4, 0x0033);
        game(true, 4, 0x00c3);
        game(true, 4, 0x3c00);
        game(false, 4, 0x3003);
        game(false, 4, 0x5555);
        game(false, 4, 0xaaaa);
        game(false, 4, 0x000f);
        game(false, 4, 0xf00f);
        game(false, 4, 0x6699);
    }

    /** Both ways, and what players say by turns, tried one after the other. */
    private static void everyGame() {
        Trial court = Trial.ofNew();
        for (int rounds = 1; rounds <= 4; rounds++) {
            for (int set = 0; set < 1 << (1 << rounds); set++) {
                if (court.calls() + 2 > Trial.MOST_CALLS) {
                    court = Trial.ofNew();
                }
                boolean due = Reference.wins(rounds, set, 0, 0);
                court.due(due, "has", rounds, set).due(due, "hasAnew", rounds, set);
            }
        }
    }

    private static void wrongGames() {
        Trial court = Trial.ofNew();
        for (String call : BOTH) {
            for (int rounds : new int[] {0, 5, -1, 31, 32, 33, Integer.MAX_VALUE,
                Integer.MIN_VALUE}) {
                court.due(Trial.BAD_ARGUMENT, call, rounds, 0);
                court.due(Trial.BAD_ARGUMENT, call, rounds, 1);
            }
            for (int rounds = 1; rounds <= 4; rounds++) {
                int first = 1 << (1 << rounds);
                for (int set : new int[] {-1, first, first + 1, Integer.MAX_VALUE,
                    Integer.MIN_VALUE}) {
                    court.due(Trial.BAD_ARGUMENT, call, rounds, set);
                }
                court.due(false, call, rounds, 0).due(true, call, rounds, first - 1);
            }
        }
    }
}
