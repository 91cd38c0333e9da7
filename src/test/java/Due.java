/** Counts the answers of a test and tells those that are not due. */
final class Due {
    private static int right = 0;
    private static int wrong = 0;
    private static String words = "";
    private static int answersAhead = 0;

    private Due() {
    }

    /** Tells the words of the document that the answers behind it are due by. */
    static void by(String quoted) {
        endWords();
        words = quoted;
        answersAhead = right + wrong;
    }

    static void due(String call, long got, long want) {
        if (got == want) {
            right++;
            return;
        }
        wrong++;
        if (wrong <= 20) {
            String reason = words.isEmpty() ? "" : " (by " + words + ")";
            System.out.println(call + " answered " + got + ", due is " + want + reason);
        }
    }

    static void type(BatchCellars plant, String text) {
        for (int i = 0; i < text.length(); i++) {
            plant.type(text.charAt(i));
        }
    }

    static void retype(BatchCellars plant, String text) {
        plant.clearText();
        type(plant, text);
    }

    /** Words that no answer was compared by have no test. */
    static void endWords() {
        if (!words.isEmpty() && right + wrong == answersAhead) {
            wrong++;
            System.out.println("no answer is looked at by " + words);
        }
        words = "";
    }

    static void close() {
        endWords();
        System.out.println(right + " answers as due, " + wrong + " not");
        if (wrong != 0 || right == 0) {
            System.exit(1);
        }
    }
}
