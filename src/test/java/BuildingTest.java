/** Promises 1 to 7: a new object, and what a plant is built of. */
public final class BuildingTest {
    private static final int BAD = BatchCellars.INVALID_ARGUMENT;
    private static final int NOT = BatchCellars.NOT_POSSIBLE;
    private static final int FULL = BatchCellars.LIMIT_REACHED;
    private static final int NONE = BatchCellars.NOT_FOUND;
    private static final int[] EXTREMES = {Integer.MIN_VALUE, Integer.MIN_VALUE + 1, -1000, -1,
        Integer.MAX_VALUE - 1, Integer.MAX_VALUE};

    public static void main(String[] args) {
        constants();
        newObject();
        recipes();
        stages();
        stageFaultsInOrder();
        vessels();
        lines();
        cleaning();
        stagesTold();
        Due.close();
    }

    private static void constants() {
        Due.due("INVALID_ARGUMENT", BAD, -1);
        Due.due("NOT_POSSIBLE", NOT, -2);
        Due.due("LIMIT_REACHED", FULL, -3);
        Due.due("NOT_FOUND", NONE, -4);
    }

    private static void newObject() {
        BatchCellars x = new BatchCellars();
        for (int what = 0; what <= 12; what++) {
            Due.due("1: count(" + what + ")", x.count(what), 0);
        }
        Due.due("1: count(20)", x.count(20), 10);
        Due.due("1: count(21)", x.count(21), 10);
        for (int product = 0; product < 4; product++) {
            Due.due("1: count(30 + " + product + ")", x.count(30 + product), 0);
        }
        Due.due("1: undo()", x.undo(), NOT);
        Due.due("1: fault(0)", x.fault(0), NONE);
        Due.due("1: urgent(0)", x.urgent(0), NONE);
        Due.due("1: vesselOf(0, 0)", x.vesselOf(0, 0), BAD);
        Due.due("1: lineOf(0, 0)", x.lineOf(0, 0), BAD);
        Due.due("1: batchOf(0, 0)", x.batchOf(0, 0), BAD);
        Due.due("1: stageOf(0, 0, 0)", x.stageOf(0, 0, 0), BAD);
        Due.due("1: end(0)", x.end(0), BAD);
        Due.due("1: clearText()", x.clearText(), 0);
        BatchCellars y = new BatchCellars();
        y.recipe(3);
        Due.due("1: count(0) of another object", x.count(0), 0);
    }

    private static void recipes() {
        BatchCellars x = new BatchCellars();
        Due.due("2: recipe(-1)", x.recipe(-1), BAD);
        Due.due("2: recipe(4)", x.recipe(4), BAD);
        Due.due("2: recipe(3)", x.recipe(3), 0);
        Due.due("2: recipe(0)", x.recipe(0), 1);
        Due.due("2: recipe(3), again", x.recipe(3), 2);
        Due.due("2: recipe(2)", x.recipe(2), 3);
        Due.due("2: recipe(1), the fifth", x.recipe(1), FULL);
        Due.due("2: recipe(4), the fifth", x.recipe(4), BAD);
        Due.due("2: count(0)", x.count(0), 4);
        Due.due("2: count(11)", x.count(11), 4);
        Due.due("2: no stage yet", x.stageOf(0, 0, 4), NONE);
        for (int wrong : EXTREMES) {
            Due.due("2: recipe(" + wrong + ")", x.recipe(wrong), BAD);
        }
    }

    private static void stages() {
        BatchCellars x = new BatchCellars();
        Due.due("3: stage of no recipe", x.stage(0, 0, 1, 0, 0), BAD);
        x.recipe(2);
        x.recipe(1);
        Due.due("3: recipe -1", x.stage(-1, 0, 1, 0, 0), BAD);
        Due.due("3: recipe 2", x.stage(2, 0, 1, 0, 0), BAD);
        Due.due("3: kind -1", x.stage(0, -1, 1, 0, 0), BAD);
        Due.due("3: kind 3", x.stage(0, 3, 1, 0, 0), BAD);
        Due.due("3: work 0", x.stage(0, 0, 0, 0, 0), BAD);
        Due.due("3: work 201", x.stage(0, 0, 201, 0, 0), BAD);
        Due.due("3: least -1", x.stage(0, 0, 1, -1, 0), BAD);
        Due.due("3: least and most 501", x.stage(0, 0, 1, 501, 501), BAD);
        Due.due("3: most below least", x.stage(0, 0, 1, 7, 6), BAD);
        Due.due("3: most 501", x.stage(0, 0, 1, 7, 501), BAD);
        for (int wrong : EXTREMES) {
            Due.due("3: recipe " + wrong, x.stage(wrong, 0, 1, 0, 0), BAD);
            Due.due("3: kind " + wrong, x.stage(0, wrong, 1, 0, 0), BAD);
            Due.due("3: work " + wrong, x.stage(0, 0, wrong, 0, 0), BAD);
            Due.due("3: least " + wrong, x.stage(0, 0, 1, wrong, 500), BAD);
            Due.due("3: most " + wrong, x.stage(0, 0, 1, 0, wrong), BAD);
        }
        Due.due("3: stage 0 of 1", x.stage(1, 1, 1, 0, 0), 0);
        Due.due("3: stage 0", x.stage(0, 2, 200, 500, 500), 0);
        Due.due("3: stage 1", x.stage(0, 0, 1, 0, 500), 1);
        Due.due("3: stage 2", x.stage(0, 1, 20, 7, 7), 2);
        Due.due("3: stage 3", x.stage(0, 1, 21, 8, 9), 3);
        Due.due("3: a fifth stage", x.stage(0, 1, 21, 8, 9), FULL);
        Due.due("3: stage 1 of 1", x.stage(1, 1, 1, 0, 0), 1);
        Due.due("3: work of stage 0", x.stageOf(0, 0, 1), 200);
    }

    private static void stageFaultsInOrder() {
        BatchCellars x = new BatchCellars();
        x.recipe(0);
        x.recipe(0);
        for (int i = 0; i < 4; i++) {
            x.stage(0, 0, 1, 0, 0);
        }
        x.vessel(0, 9);
        x.begin(0, 9, 0);
        Due.due("3: full recipe with a batch", x.stage(0, 0, 1, 0, 0), NOT);
        Due.due("3: a bad kind with a batch", x.stage(0, 3, 1, 0, 0), BAD);
        Due.due("3: another recipe", x.stage(1, 0, 1, 0, 0), 0);
        x.discard(0);
        Due.due("3: the batch is gone", x.stage(0, 0, 1, 0, 0), FULL);
    }

    private static void vessels() {
        BatchCellars x = new BatchCellars();
        Due.due("4: kind -1", x.vessel(-1, 5), BAD);
        Due.due("4: kind 3", x.vessel(3, 5), BAD);
        Due.due("4: size 0", x.vessel(0, 0), BAD);
        Due.due("4: size 1000", x.vessel(0, 1000), BAD);
        for (int i = 0; i < 6; i++) {
            Due.due("4: vessel " + i, x.vessel(i % 3, i == 5 ? 999 : 1 + i), i);
        }
        Due.due("4: a seventh", x.vessel(0, 5), FULL);
        Due.due("4: a bad seventh", x.vessel(0, 0), BAD);
        Due.due("4: kind of 4", x.vesselOf(4, 0), 1);
        Due.due("4: size of 4", x.vesselOf(4, 1), 5);
        Due.due("4: size of 5", x.vesselOf(5, 1), 999);
        for (int wrong : EXTREMES) {
            Due.due("4: kind " + wrong, x.vessel(wrong, 5), BAD);
            Due.due("4: size " + wrong, x.vessel(0, wrong), BAD);
        }
    }

    private static void lines() {
        BatchCellars x = new BatchCellars();
        Due.due("5: no vessels", x.line(3, 5), BAD);
        x.vessel(0, 5);
        Due.due("5: a vessel that is not there", x.line(3, 5), BAD);
        x.vessel(0, 5);
        x.vessel(0, 5);
        Due.due("5: the empty set", x.line(0, 5), BAD);
        Due.due("5: one vessel", x.line(4, 5), BAD);
        Due.due("5: a bit for vessel 3", x.line(9, 5), BAD);
        Due.due("5: all bits", x.line(-1, 5), BAD);
        Due.due("5: the sign bit", x.line(Integer.MIN_VALUE | 3, 5), BAD);
        Due.due("5: speed 0", x.line(3, 0), BAD);
        Due.due("5: speed 100", x.line(3, 100), BAD);
        Due.due("5: speed -1", x.line(3, Integer.MIN_VALUE), BAD);
        Due.due("5: line 0", x.line(5, 1), 0);
        Due.due("5: line 1", x.line(7, 99), 1);
        Due.due("5: line 2, as line 0", x.line(5, 1), 2);
        Due.due("5: a fourth", x.line(5, 1), FULL);
        Due.due("5: a bad fourth", x.line(8, 1), BAD);
        Due.due("5: the vessels of line 1", x.lineOf(1, 0), 7);
        Due.due("5: the speed of line 1", x.lineOf(1, 1), 99);
        Due.due("5: count(2)", x.count(2), 3);
        BatchCellars y = new BatchCellars();
        for (int i = 0; i < 6; i++) {
            y.vessel(0, 5);
        }
        Due.due("5: all six", y.line(63, 5), 0);
        Due.due("5: a seventh bit", y.line(64 + 3, 5), BAD);
    }

    private static void cleaning() {
        BatchCellars x = new BatchCellars();
        for (int from = 0; from < 4; from++) {
            for (int to = 0; to < 4; to++) {
                int first = from == to ? 0 : 5;
                String call = "6: cleaning(" + from + ", " + to;
                Due.due(call + ", ..)", x.cleaning(from, to, 10 * from + to), first);
            }
        }
        for (int from = 0; from < 4; from++) {
            for (int to = 0; to < 4; to++) {
                String call = "6: cleaning(" + from + ", " + to;
                Due.due(call + ", 99)", x.cleaning(from, to, 99), 10 * from + to);
            }
        }
        Due.due("6: to 0", x.cleaning(1, 2, 0), 99);
        Due.due("6: was 0", x.cleaning(1, 2, 0), 0);
        Due.due("6: from -1", x.cleaning(-1, 2, 0), BAD);
        Due.due("6: from 4", x.cleaning(4, 2, 0), BAD);
        Due.due("6: to -1", x.cleaning(1, -1, 0), BAD);
        Due.due("6: to 4", x.cleaning(1, 4, 0), BAD);
        Due.due("6: minutes -1", x.cleaning(1, 2, -1), BAD);
        Due.due("6: minutes 100", x.cleaning(1, 2, 100), BAD);
        for (int wrong : EXTREMES) {
            Due.due("6: from " + wrong, x.cleaning(wrong, 0, 0), BAD);
            Due.due("6: to " + wrong, x.cleaning(0, wrong, 0), BAD);
            Due.due("6: minutes " + wrong, x.cleaning(0, 0, wrong), BAD);
        }
    }

    private static void stagesTold() {
        BatchCellars x = new BatchCellars();
        x.recipe(3);
        x.recipe(1);
        x.stage(1, 2, 30, 4, 50);
        x.stage(1, 1, 31, 5, 51);
        int[] first = {2, 30, 4, 50, 1};
        int[] second = {1, 31, 5, 51, 1};
        for (int what = 0; what < 5; what++) {
            Due.due("7: stageOf(1, 0, " + what + ")", x.stageOf(1, 0, what), first[what]);
            Due.due("7: stageOf(1, 1, " + what + ")", x.stageOf(1, 1, what), second[what]);
            Due.due("7: stageOf(1, 2, " + what + ")", x.stageOf(1, 2, what), NONE);
            Due.due("7: stageOf(0, 0, " + what + ")", x.stageOf(0, 0, what), NONE);
        }
        Due.due("7: far stage", x.stageOf(1, Integer.MAX_VALUE, 0), NONE);
        Due.due("7: stage 4", x.stageOf(1, 4, 0), NONE);
        Due.due("7: stage -1", x.stageOf(1, -1, 0), BAD);
        Due.due("7: least stage", x.stageOf(1, Integer.MIN_VALUE, 0), BAD);
        Due.due("7: recipe -1", x.stageOf(-1, 0, 0), BAD);
        Due.due("7: recipe 2", x.stageOf(2, 0, 0), BAD);
        Due.due("7: what -1", x.stageOf(1, 0, -1), BAD);
        Due.due("7: what 5", x.stageOf(1, 0, 5), BAD);
        Due.due("7: what 5 and no stage", x.stageOf(1, 3, 5), BAD);
        for (int wrong : EXTREMES) {
            Due.due("7: recipe " + wrong, x.stageOf(wrong, 0, 0), BAD);
            Due.due("7: what " + wrong, x.stageOf(1, 0, wrong), BAD);
        }
    }
}
