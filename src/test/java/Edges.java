import java.util.function.IntUnaryOperator;

/** What the tests of the edges share. The answers stand here as the document's numbers. */
abstract class Edges {
    static final int BAD = -1;
    static final int NOT = -2;
    static final int FULL = -3;
    static final int NONE = -4;

    static void by(String chapter, String words) {
        Sentences.tested(chapter, words);
    }

    static void due(String call, long got, long want) {
        Due.due(call, got, want);
    }

    /**
     * INVALID_ARGUMENT is due for each value outside the range, and for none in it: for all from
     * far below to far above the range, and for such as would be in it if they lost their high bits.
     */
    static void range(String call, int least, int most, IntUnaryOperator answer) {
        for (int value = -1100; value <= 1100; value++) {
            within(call, value, least, most, answer);
        }
        for (int bit = 8; bit < 32; bit++) {
            for (int value : new int[] {-1, 0, 1, least, most, most + 1}) {
                within(call, (1 << bit) + value, least, most, answer);
                within(call, value - (1 << bit), least, most, answer);
            }
        }
    }

    private static void within(String call, int value, int least, int most, IntUnaryOperator answer) {
        boolean refused = answer.applyAsInt(value) == BAD;
        boolean outside = value < least || value > most;
        due(call + " with " + value + " is INVALID_ARGUMENT", refused ? 1 : 0, outside ? 1 : 0);
    }
}
