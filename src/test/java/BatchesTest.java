/** Promises 8 to 14: what batches do, the time and the settings. */
public final class BatchesTest {
    private static final int BAD = BatchCellars.INVALID_ARGUMENT;
    private static final int NOT = BatchCellars.NOT_POSSIBLE;
    private static final int FULL = BatchCellars.LIMIT_REACHED;
    private static final int NONE = BatchCellars.NOT_FOUND;
    private static final int[] EXTREMES = {Integer.MIN_VALUE, -1, 6, 7, Integer.MAX_VALUE};

    public static void main(String[] args) {
        beginning();
        sixBatches();
        cleaningAtBeginning();
        moving();
        movingTakesTheLowestFreeLine();
        movingWhileBusy();
        movingCleansAndLoses();
        movingSpoiled();
        ending();
        throwingAway();
        blending();
        blendingLimits();
        passing();
        spoiling();
        settings();
        Due.close();
    }

    /** Recipe 0 of product 0 with the stages (0, 10, 5, 20) and (1, 8, 0, 9); no vessels. */
    private static BatchCellars twoStages() {
        BatchCellars x = new BatchCellars();
        x.recipe(0);
        x.stage(0, 0, 10, 5, 20);
        x.stage(0, 1, 8, 0, 9);
        return x;
    }

    /** Recipes 0 and 1 of the products 0 and 2 with the stage (0, 1, 0, 2). */
    private static BatchCellars oneStage(int size) {
        BatchCellars x = new BatchCellars();
        x.recipe(0);
        x.recipe(2);
        x.stage(0, 0, 1, 0, 2);
        x.stage(1, 0, 1, 0, 2);
        x.vessel(0, size);
        return x;
    }

    private static void beginning() {
        BatchCellars x = new BatchCellars();
        Due.due("8: nothing there", x.begin(0, 5, 0), BAD);
        x.recipe(0);
        Due.due("8: no vessel", x.begin(0, 5, 0), BAD);
        x.vessel(1, 50);
        x.vessel(0, 50);
        Due.due("8: no stage", x.begin(0, 5, 0), NOT);
        Due.due("8: no stage, mass 0", x.begin(0, 0, 0), BAD);
        x.stage(0, 1, 10, 0, 5);
        x.stage(0, 0, 10, 0, 5);
        Due.due("8: recipe 1", x.begin(1, 5, 0), BAD);
        Due.due("8: recipe -1", x.begin(-1, 5, 0), BAD);
        Due.due("8: mass 0", x.begin(0, 0, 0), BAD);
        Due.due("8: mass 1000", x.begin(0, 1000, 0), BAD);
        Due.due("8: mass 1000, wrong kind", x.begin(0, 1000, 1), BAD);
        Due.due("8: vessel -1", x.begin(0, 5, -1), BAD);
        Due.due("8: vessel 2", x.begin(0, 5, 2), BAD);
        for (int wrong : EXTREMES) {
            Due.due("8: recipe " + wrong, x.begin(wrong, 5, 0), BAD);
            Due.due("8: vessel " + wrong, x.begin(0, 5, wrong), BAD);
        }
        Due.due("8: the kind of stage 1", x.begin(0, 5, 1), NOT);
        Due.due("8: too large", x.begin(0, 51, 0), NOT);
        Due.due("8: as large as the vessel", x.begin(0, 50, 0), 0);
        Due.due("8: there is a batch", x.begin(0, 5, 0), NOT);
        Due.due("8: count(3)", x.count(3), 1);
        Due.due("8: count(5)", x.count(5), 50);
        Due.due("8: no change by errors", x.count(11), 4);
        BatchCellars y = oneStage(999);
        Due.due("8: mass 999", y.begin(1, 999, 0), 0);
        y.discard(0);
        Due.due("8: mass 1", y.begin(1, 1, 0), 0);
    }

    private static void sixBatches() {
        BatchCellars x = oneStage(9);
        for (int i = 1; i < 6; i++) {
            x.vessel(0, 9);
        }
        for (int i = 0; i < 6; i++) {
            Due.due("8: batch " + i, x.begin(0, 9, 5 - i), i);
        }
        Due.due("8: its vessel", x.batchOf(1, 3), 4);
        x.discard(4);
        x.discard(2);
        Due.due("8: the lowest number", x.begin(0, 8, 1), 2);
        Due.due("8: the next one", x.begin(0, 7, 3), 4);
        Due.due("8: batch 4 in vessel 3", x.batchOf(4, 3), 3);
        Due.due("8: in vessel 1", x.vesselOf(1, 2), 2);
    }

    private static void cleaningAtBeginning() {
        BatchCellars x = oneStage(9);
        x.cleaning(0, 2, 33);
        x.cleaning(2, 0, 44);
        x.cleaning(2, 2, 7);
        x.begin(0, 9, 0);
        Due.due("8: nothing was in it", x.batchOf(0, 4), 0);
        x.discard(0);
        x.pass(10);
        x.begin(1, 9, 0);
        Due.due("8: from 0 to 2", x.batchOf(0, 4), 43);
        Due.due("8: cleaned for", x.vesselOf(0, 4), 33);
        x.discard(0);
        x.begin(1, 9, 0);
        Due.due("8: the same product", x.batchOf(0, 4), 17);
        x.discard(0);
        x.begin(0, 9, 0);
        Due.due("8: from 2 to 0", x.batchOf(0, 4), 54);
        Due.due("8: cleaned for, in all", x.vesselOf(0, 4), 33 + 7 + 44);
    }

    private static void moving() {
        BatchCellars x = twoStages();
        x.vessel(0, 99);
        x.vessel(1, 60);
        x.vessel(0, 99);
        x.vessel(1, 59);
        x.vessel(2, 99);
        x.vessel(1, 70);
        Due.due("9: no batch", x.move(0, 1), BAD);
        x.begin(0, 60, 0);
        x.pass(15);
        Due.due("9: no line", x.move(0, 1), NOT);
        x.line(1 | 2 | 4 | 8 | 16, 10);
        for (int wrong : EXTREMES) {
            Due.due("9: batch " + wrong, x.move(wrong, 1), BAD);
            Due.due("9: vessel " + wrong, x.move(0, wrong), BAD);
        }
        Due.due("9: batch 1", x.move(1, 1), BAD);
        Due.due("9: its own vessel", x.move(0, 0), NOT);
        Due.due("9: the kind of stage 0", x.move(0, 2), NOT);
        Due.due("9: too small", x.move(0, 3), NOT);
        Due.due("9: another kind", x.move(0, 4), NOT);
        Due.due("9: not joined", x.move(0, 5), NOT);
        Due.due("9: possible", x.move(0, 1), 0);
        Due.due("9: its stage", x.batchOf(0, 2), 1);
        Due.due("9: its vessel", x.batchOf(0, 3), 1);
        Due.due("9: the old vessel", x.vesselOf(0, 2), NONE);
        Due.due("9: the old vessel's product", x.vesselOf(0, 3), 0);
        Due.due("9: the new vessel", x.vesselOf(1, 2), 0);
        x.pass(100);
        Due.due("9: no next stage", x.move(0, 5), NOT);
        Due.due("9: no next stage, no vessel", x.move(0, 6), BAD);
    }

    private static void movingTakesTheLowestFreeLine() {
        BatchCellars x = twoStages();
        x.vessel(0, 99);
        x.vessel(0, 99);
        x.vessel(1, 99);
        x.vessel(1, 99);
        x.vessel(1, 99);
        x.line(1 | 2, 50);
        x.line(15, 3);
        x.line(31, 99);
        x.begin(0, 10, 0);
        x.begin(0, 99, 1);
        x.pass(14);
        Due.due("9: not ripe", x.move(0, 2), NOT);
        x.pass(1);
        Due.due("9: line 1, though slow", x.move(0, 2), 1);
        Due.due("9: minutes rounded up", x.lineOf(1, 2), 4);
        Due.due("9: the work begins", x.batchOf(0, 4), 19);
        Due.due("9: a batch there", x.move(1, 2), NOT);
        Due.due("9: the next line", x.move(1, 3), 2);
        Due.due("9: in one minute", x.batchOf(1, 4), 16);
    }

    private static void movingWhileBusy() {
        BatchCellars x = twoStages();
        x.vessel(0, 99);
        x.vessel(0, 99);
        x.vessel(1, 99);
        x.vessel(1, 99);
        x.line(15, 10);
        x.begin(0, 40, 0);
        x.begin(0, 40, 1);
        x.pass(15);
        Due.due("9: line 0", x.move(0, 2), 0);
        Due.due("9: busy", x.move(1, 3), NOT);
        x.pass(3);
        Due.due("9: busy for", x.lineOf(0, 2), 1);
        Due.due("9: still busy", x.move(1, 3), NOT);
        x.pass(1);
        Due.due("9: busy no more", x.lineOf(0, 2), 0);
        Due.due("9: then", x.move(1, 3), 0);
    }

    private static void movingCleansAndLoses() {
        BatchCellars x = new BatchCellars();
        x.recipe(3);
        x.recipe(1);
        x.stage(0, 0, 1, 0, 500);
        x.stage(0, 0, 2, 3, 500);
        x.stage(1, 0, 1, 0, 500);
        x.vessel(0, 999);
        x.vessel(0, 999);
        x.line(3, 99);
        x.cleaning(1, 3, 40);
        x.cleaning(3, 1, 60);
        x.begin(1, 1, 1);
        x.discard(0);
        x.begin(0, 999, 0);
        x.pass(1);
        x.set(0, 15);
        Due.due("9: move(0, 1)", x.move(0, 1), 0);
        Due.due("9: cleaning and 11 minutes", x.lineOf(0, 2), 51);
        Due.due("9: the work begins behind", x.batchOf(0, 4), 52);
        Due.due("9: cleaned for", x.vesselOf(1, 4), 40);
        Due.due("9: its product", x.vesselOf(1, 3), 3);
        Due.due("9: loss rounded down", x.batchOf(0, 1), 999 - 14);
        Due.due("9: lost", x.count(7), 1 + 14);
        Due.due("9: carried with the loss", x.lineOf(0, 3), 999);
        Due.due("9: ripe from", x.batchOf(0, 9), 57);
        x.pass(55);
        Due.due("9: not ripe", x.end(0), NOT);
        x.pass(1);
        Due.due("9: ripe", x.end(0), 985);
    }

    private static void movingSpoiled() {
        BatchCellars x = twoStages();
        x.vessel(0, 100);
        x.vessel(1, 100);
        x.line(3, 50);
        x.set(0, 100);
        x.begin(0, 100, 0);
        Due.due("9: it spoils", x.pass(31), 1);
        Due.due("9: a spoiled one moves", x.move(0, 1), 0);
        Due.due("9: and stays spoiled", x.batchOf(0, 7), 1);
        Due.due("9: a tenth is lost", x.batchOf(0, 1), 90);
        x.pass(9);
        Due.due("10: not ripe, spoiled", x.end(0), NOT);
        Due.due("13: spoils no second time", x.pass(99), 0);
        Due.due("10: into the store", x.end(0), 90);
        Due.due("10: off-grade", x.count(30), 90);
        Due.due("10: nothing made", x.count(6) + x.count(9), 0);
    }

    private static void ending() {
        BatchCellars x = twoStages();
        x.vessel(0, 99);
        x.vessel(1, 99);
        x.line(3, 99);
        x.begin(0, 42, 0);
        for (int wrong : EXTREMES) {
            Due.due("10: batch " + wrong, x.end(wrong), BAD);
        }
        Due.due("10: batch 1", x.end(1), BAD);
        x.pass(16);
        Due.due("10: not its last stage", x.end(0), NOT);
        x.move(0, 1);
        Due.due("10: begins at", x.batchOf(0, 4), 17);
        x.pass(8);
        Due.due("10: at work", x.end(0), NOT);
        x.pass(1);
        Due.due("10: ripe", x.end(0), 42);
        Due.due("10: gone", x.end(0), BAD);
        Due.due("10: its mass is made", x.count(6), 42);
        Due.due("10: one is made", x.count(9), 1);
        Due.due("10: none is left", x.count(3) + x.count(8), 0);
        Due.due("10: its vessel", x.vesselOf(1, 2), NONE);
        Due.due("10: its product", x.vesselOf(1, 3), 0);
        BatchCellars y = oneStage(50);
        y.begin(1, 44, 0);
        y.pass(3);
        Due.due("10: the last good minute", y.batchOf(0, 7), 0);
        y.pass(1);
        Due.due("10: spoiled", y.end(0), 44);
        Due.due("10: off-grade of product 2", y.count(32), 44);
        Due.due("10: of no other", y.count(30) + y.count(31) + y.count(33), 0);
        y.begin(1, 30, 0);
        y.pass(4);
        y.end(0);
        Due.due("10: more of it", y.count(32), 74);
        Due.due("10: both spoiled", y.count(10), 2);
    }

    private static void throwingAway() {
        BatchCellars x = twoStages();
        x.vessel(0, 99);
        x.vessel(1, 99);
        x.line(3, 99);
        Due.due("11: no batch", x.discard(0), BAD);
        x.begin(0, 42, 0);
        for (int wrong : EXTREMES) {
            Due.due("11: batch " + wrong, x.discard(wrong), BAD);
        }
        Due.due("11: at work", x.discard(0), 42);
        Due.due("11: its mass is lost", x.count(7), 42);
        Due.due("11: gone", x.discard(0), BAD);
        Due.due("11: its vessel", x.vesselOf(0, 2), NONE);
        x.begin(0, 17, 0);
        x.pass(31);
        Due.due("11: spoiled", x.batchOf(0, 7), 1);
        x.move(0, 1);
        Due.due("11: in the last stage", x.discard(0), 17);
        Due.due("11: lost in all", x.count(7), 59);
        Due.due("11: no off-grade", x.count(30), 0);
        Due.due("11: still counted as spoiled", x.count(10), 1);
        Due.due("11: of all that was begun", x.count(5), 59);
    }

    private static void blending() {
        BatchCellars x = twoStages();
        x.recipe(0);
        x.stage(1, 0, 1, 0, 0);
        x.recipe(1);
        x.stage(2, 0, 1, 0, 0);
        x.vessel(0, 110);
        x.vessel(1, 200);
        x.vessel(0, 300);
        x.line(3, 99);
        x.begin(1, 90, 0);
        x.pass(2);
        x.end(0);
        Due.due("12: off-grade", x.count(30), 90);
        Due.due("12: no batch", x.blend(0, 1), BAD);
        x.begin(0, 100, 0);
        for (int wrong : EXTREMES) {
            Due.due("12: batch " + wrong, x.blend(wrong, 1), BAD);
        }
        Due.due("12: mass 0", x.blend(0, 0), BAD);
        Due.due("12: mass -1", x.blend(0, -1), BAD);
        Due.due("12: mass 1000", x.blend(0, 1000), BAD);
        Due.due("12: mass extreme", x.blend(0, Integer.MAX_VALUE), BAD);
        Due.due("12: above a tenth", x.blend(0, 11), NOT);
        Due.due("12: at work", x.blend(0, 4), 104);
        Due.due("12: blended in", x.batchOf(0, 8), 4);
        x.pass(15);
        Due.due("12: with the first ones above a tenth", x.blend(0, 7), NOT);
        Due.due("12: ripe", x.blend(0, 6), 110);
        Due.due("12: off-grade left", x.count(30), 80);
        x.set(1, 50);
        Due.due("12: no room", x.blend(0, 1), NOT);
        x.move(0, 1);
        Due.due("12: still told", x.batchOf(0, 8), 10);
        Due.due("12: not in stage 0", x.blend(0, 1), NOT);
        x.begin(2, 100, 2);
        Due.due("12: none of its product", x.blend(1, 1), NOT);
        Due.due("12: mass before the batch's product", x.blend(1, 0), BAD);
        x.pass(2);
        x.end(1);
        x.begin(1, 100, 2);
        x.pass(50);
        Due.due("12: spoiled", x.blend(1, 1), NOT);
        Due.due("12: mass begun without it", x.count(5), 390);
    }

    private static void blendingLimits() {
        BatchCellars x = oneStage(999);
        x.begin(0, 7, 0);
        x.pass(4);
        x.end(0);
        x.begin(0, 39, 0);
        Due.due("12: a tenth rounded down", x.blend(0, 4), NOT);
        Due.due("12: three", x.blend(0, 3), 42);
        x.set(1, 50);
        Due.due("12: of the mass at its beginning", x.blend(0, 17), NOT);
        Due.due("12: more than there is", x.blend(0, 5), NOT);
        Due.due("12: all there is", x.blend(0, 4), 46);
        Due.due("12: the store is empty", x.count(30), 0);
        x.set(1, 0);
        x.discard(0);
        x.begin(1, 100, 0);
        Due.due("12: nothing can be", x.blend(0, 1), NOT);
        BatchCellars y = oneStage(999);
        y.begin(0, 900, 0);
        y.pass(4);
        y.end(0);
        y.set(1, 50);
        y.begin(0, 666, 0);
        Due.due("12: no room for 334", y.blend(0, 334), NOT);
        Due.due("12: room for 333, the half", y.blend(0, 333), 999);
    }

    private static void passing() {
        BatchCellars x = new BatchCellars();
        Due.due("13: 0 minutes", x.pass(0), BAD);
        Due.due("13: -1 minutes", x.pass(-1), BAD);
        Due.due("13: 1000 minutes", x.pass(1000), BAD);
        Due.due("13: extreme", x.pass(Integer.MAX_VALUE), BAD);
        Due.due("13: extreme", x.pass(Integer.MIN_VALUE), BAD);
        Due.due("13: 1 minute", x.pass(1), 0);
        for (int i = 0; i < 30; i++) {
            Due.due("13: 999 minutes", x.pass(999), 0);
        }
        Due.due("13: the time", x.count(4), 29971);
        Due.due("13: above 30000", x.pass(30), FULL);
        Due.due("13: bad ahead of above", x.pass(1000), BAD);
        Due.due("13: up to 30000", x.pass(29), 0);
        Due.due("13: one more", x.pass(1), FULL);
        Due.due("13: the time", x.count(4), 30000);
    }

    private static void spoiling() {
        BatchCellars x = oneStage(9);
        x.vessel(0, 9);
        x.vessel(0, 9);
        x.begin(0, 5, 0);
        x.begin(1, 5, 1);
        Due.due("13: at their greatest age", x.pass(3), 0);
        x.begin(1, 5, 2);
        Due.due("13: both spoil", x.pass(1), 2);
        Due.due("13: the third later", x.pass(2), 0);
        Due.due("13: then", x.pass(500), 1);
        Due.due("13: none is left to spoil", x.pass(500), 0);
        Due.due("13: spoiled so far", x.count(10), 3);
    }

    private static void settings() {
        BatchCellars x = new BatchCellars();
        Due.due("14: set(0, 100)", x.set(0, 100), 10);
        Due.due("14: set(0, 0)", x.set(0, 0), 100);
        Due.due("14: set(0, 101)", x.set(0, 101), BAD);
        Due.due("14: set(0, -1)", x.set(0, -1), BAD);
        Due.due("14: set(1, 50)", x.set(1, 50), 10);
        Due.due("14: set(1, 0)", x.set(1, 0), 50);
        Due.due("14: set(1, 51)", x.set(1, 51), BAD);
        Due.due("14: set(1, -1)", x.set(1, -1), BAD);
        Due.due("14: set(2, 5)", x.set(2, 5), BAD);
        Due.due("14: set(-1, 5)", x.set(-1, 5), BAD);
        Due.due("14: set of extremes", x.set(Integer.MIN_VALUE, 5), BAD);
        Due.due("14: set of extremes", x.set(0, Integer.MAX_VALUE), BAD);
        x.set(0, 33);
        Due.due("14: setting 0", x.count(20), 33);
        Due.due("14: setting 1", x.count(21), 0);
    }
}
