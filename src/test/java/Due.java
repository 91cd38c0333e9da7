/** Counts the answers of a test and tells those that are not due. */
final class Due {
    private static int right = 0;
    private static int wrong = 0;

    private Due() {
    }

    static void due(String call, long got, long want) {
        if (got == want) {
            right++;
            return;
        }
        wrong++;
        if (wrong <= 20) {
            System.out.println(call + " answered " + got + ", due is " + want);
        }
    }

    static void type(BatchCellars plant, String text) {
        for (int i = 0; i < text.length(); i++) {
            plant.type(text.charAt(i));
        }
    }

    static void retype(BatchCellars plant, String text) {
        plant.clearText();
        type(plant, text);
    }

    static void close() {
        System.out.println(right + " answers as due, " + wrong + " not");
        if (wrong != 0 || right == 0) {
            System.exit(1);
        }
    }
}
