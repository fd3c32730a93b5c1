import java.util.Arrays;
import java.util.stream.IntStream;

/** Numbers that are out of a range: those next to it, far ones, and ones that would wrap around. */
final class Edges {
    static final int HIGHEST = Integer.MAX_VALUE;
    static final int LOWEST = Integer.MIN_VALUE;

    /** Each is 0 or little more to who keeps but some low bits of it, as a shift or a cast does. */
    private static final int[] WRAPPING = {
        31, 32, 33, 64, 256, 257, 65536, 65537, 1 << 30, -32, -31, -256, -255, -65536, -65535,
    };

    private Edges() {
    }

    /** Out of the range from the lowest to the highest number. */
    static int[] outside(int lowest, int highest) {
        int[] near = {lowest - 1, lowest - 2, -lowest - 1, highest + 1, highest + 2,
            HIGHEST, HIGHEST - 1, LOWEST, LOWEST + 1, ~highest};
        return IntStream.concat(Arrays.stream(near), Arrays.stream(WRAPPING))
                .filter(number -> number < lowest || number > highest).distinct().toArray();
    }

    /** No numbers of one of so many things, which are numbered from 0. */
    static int[] noneOf(int howMany) {
        return outside(0, howMany - 1);
    }

    /** No sets of so many things, told by bits: each has a bit too many. */
    static int[] noSets(int howMany) {
        int all = (1 << howMany) - 1;
        IntStream more = IntStream.rangeClosed(howMany, 31).map(bit -> 1 << bit);
        IntStream fuller = IntStream.rangeClosed(howMany, 31).map(bit -> 1 << bit | all);
        IntStream far = Arrays.stream(outside(0, all));
        return IntStream.concat(IntStream.concat(more, fuller), far).distinct().toArray();
    }
}
