/** Promises 15 to 22: what there is, and what could be. */
public final class TellingTest {
    private static final int BAD = BatchCellars.INVALID_ARGUMENT;
    private static final int NONE = BatchCellars.NOT_FOUND;
    private static final int[] EXTREMES = {Integer.MIN_VALUE, -1, 6, 64, Integer.MAX_VALUE};

    public static void main(String[] args) {
        batches();
        vessels();
        lines();
        counts();
        targets();
        quickest();
        soonest();
        soonestLoses();
        urgent();
        Due.close();
    }

    /** Recipe 0 of product 1 in three stages, recipe 1 of product 2 in one; vessels and a line. */
    private static BatchCellars plant() {
        BatchCellars x = new BatchCellars();
        x.recipe(1);
        x.stage(0, 0, 10, 5, 20);
        x.stage(0, 1, 8, 0, 9);
        x.stage(0, 2, 7, 2, 3);
        x.recipe(2);
        x.stage(1, 1, 3, 1, 4);
        x.vessel(0, 100);
        x.vessel(1, 100);
        x.vessel(1, 90);
        x.vessel(1, 60);
        x.vessel(2, 95);
        x.line(31, 9);
        return x;
    }

    private static void told(BatchCellars x, int batch, int[] values) {
        for (int what = 0; what < values.length; what++) {
            String call = "15: batchOf(" + batch + ", " + what + ")";
            Due.due(call, x.batchOf(batch, what), values[what]);
        }
    }

    private static void batches() {
        BatchCellars x = plant();
        x.pass(100);
        x.begin(1, 5, 1);
        x.discard(0);
        x.begin(0, 99, 0);
        told(x, 0, new int[] {0, 99, 0, 0, 100, 0, 0, 0, 0, 115, 130});
        x.pass(10);
        told(x, 0, new int[] {0, 99, 0, 0, 100, 0, 0, 0, 0, 115, 130});
        x.pass(1);
        told(x, 0, new int[] {0, 99, 0, 0, 100, 1, 0, 0, 0, 115, 130});
        x.pass(4);
        told(x, 0, new int[] {0, 99, 0, 0, 100, 5, 1, 0, 0, 115, 130});
        x.set(0, 100);
        x.move(0, 1);
        told(x, 0, new int[] {0, 90, 1, 1, 131, 0, 0, 0, 0, 139, 148});
        x.pass(33);
        told(x, 0, new int[] {0, 90, 1, 1, 131, 9, 1, 0, 0, 139, 148});
        x.begin(1, 5, 2);
        told(x, 1, new int[] {1, 5, 0, 2, 148, 0, 0, 0, 0, 152, 155});
        Due.due("15: one spoils", x.pass(1), 1);
        told(x, 0, new int[] {0, 90, 1, 1, 131, 10, 1, 1, 0, 139, 148});
        for (int wrong : EXTREMES) {
            Due.due("15: batch " + wrong, x.batchOf(wrong, 0), BAD);
        }
        Due.due("15: batch 2", x.batchOf(2, 0), BAD);
        Due.due("15: what -1", x.batchOf(0, -1), BAD);
        Due.due("15: what 11", x.batchOf(0, 11), BAD);
        Due.due("15: what extreme", x.batchOf(0, Integer.MIN_VALUE), BAD);
    }

    private static void vessels() {
        BatchCellars x = plant();
        Due.due("16: kind", x.vesselOf(4, 0), 2);
        Due.due("16: size", x.vesselOf(4, 1), 95);
        Due.due("16: no batch", x.vesselOf(1, 2), NONE);
        Due.due("16: no product", x.vesselOf(1, 3), NONE);
        Due.due("16: not cleaned", x.vesselOf(1, 4), 0);
        x.begin(0, 9, 0);
        x.begin(1, 9, 2);
        Due.due("16: its batch", x.vesselOf(2, 2), 1);
        Due.due("16: the batch's product", x.vesselOf(2, 3), 2);
        Due.due("16: a new vessel needs no cleaning", x.vesselOf(2, 4), 0);
        x.discard(1);
        Due.due("16: none again", x.vesselOf(2, 2), NONE);
        Due.due("16: its product stays", x.vesselOf(2, 3), 2);
        x.pass(15);
        x.move(0, 2);
        Due.due("16: batch 0", x.vesselOf(2, 2), 0);
        Due.due("16: product 1 then", x.vesselOf(2, 3), 1);
        Due.due("16: cleaned at once", x.vesselOf(2, 4), 5);
        for (int wrong : EXTREMES) {
            Due.due("16: vessel " + wrong, x.vesselOf(wrong, 0), BAD);
        }
        Due.due("16: vessel 5", x.vesselOf(5, 0), BAD);
        Due.due("16: what -1", x.vesselOf(0, -1), BAD);
        Due.due("16: what 5", x.vesselOf(0, 5), BAD);
        Due.due("16: what extreme", x.vesselOf(0, Integer.MAX_VALUE), BAD);
    }

    private static void lines() {
        BatchCellars x = plant();
        Due.due("17: its vessels", x.lineOf(0, 0), 31);
        Due.due("17: its speed", x.lineOf(0, 1), 9);
        Due.due("17: not busy", x.lineOf(0, 2), 0);
        Due.due("17: nothing carried", x.lineOf(0, 3), 0);
        x.begin(0, 91, 0);
        x.pass(15);
        x.move(0, 1);
        Due.due("17: busy for", x.lineOf(0, 2), 11);
        Due.due("17: carried at once", x.lineOf(0, 3), 91);
        x.pass(10);
        Due.due("17: a minute left", x.lineOf(0, 2), 1);
        x.pass(20);
        Due.due("17: none left", x.lineOf(0, 2), 0);
        x.move(0, 4);
        Due.due("17: carried in all", x.lineOf(0, 3), 182);
        for (int wrong : EXTREMES) {
            Due.due("17: line " + wrong, x.lineOf(wrong, 0), BAD);
        }
        Due.due("17: line 1", x.lineOf(1, 0), BAD);
        Due.due("17: what -1", x.lineOf(0, -1), BAD);
        Due.due("17: what 4", x.lineOf(0, 4), BAD);
        Due.due("17: what extreme", x.lineOf(0, Integer.MIN_VALUE), BAD);
    }

    private static void counts() {
        BatchCellars x = plant();
        x.set(0, 100);
        x.set(1, 20);
        x.begin(0, 90, 0);
        x.begin(1, 50, 2);
        x.begin(1, 60, 3);
        x.pass(4);
        x.end(1);
        x.pass(11);
        x.end(2);
        x.move(0, 1);
        x.type('t');
        x.type('5');
        int[] due = {2, 5, 1, 1, 15, 200, 50, 9, 81, 1, 1, 4, 2};
        for (int what = 0; what < due.length; what++) {
            Due.due("18: count(" + what + ")", x.count(what), due[what]);
        }
        Due.due("18: count(20)", x.count(20), 100);
        Due.due("18: count(21)", x.count(21), 20);
        int[] store = {0, 0, 60, 0};
        for (int product = 0; product < 4; product++) {
            Due.due("18: count(30 + " + product + ")", x.count(30 + product), store[product]);
        }
        int[] wrong = {Integer.MIN_VALUE, -1, 13, 19, 22, 29, 34, 35, Integer.MAX_VALUE};
        for (int what : wrong) {
            Due.due("18: count(" + what + ")", x.count(what), BAD);
        }
    }

    private static void targets() {
        BatchCellars x = plant();
        Due.due("19: no batch", x.targets(0), BAD);
        x.begin(0, 90, 0);
        x.pass(14);
        Due.due("19: not ripe", x.targets(0), 0);
        x.pass(1);
        Due.due("19: two are large enough", x.targets(0), 2 | 4);
        x.begin(1, 5, 1);
        Due.due("19: one has a batch", x.targets(0), 4);
        x.move(0, 2);
        Due.due("19: at work", x.targets(0), 0);
        x.pass(18);
        Due.due("19: ripe in stage 1", x.targets(0), 16);
        x.move(0, 4);
        x.pass(50);
        Due.due("19: in the last stage", x.targets(0), 0);
        x.begin(0, 9, 0);
        x.begin(1, 9, 2);
        for (int wrong : EXTREMES) {
            Due.due("19: batch " + wrong, x.targets(wrong), BAD);
        }
        Due.due("19: batch 4", x.targets(4), BAD);
        BatchCellars y = new BatchCellars();
        y.recipe(0);
        y.stage(0, 0, 1, 0, 500);
        y.stage(0, 0, 1, 0, 500);
        for (int i = 0; i < 6; i++) {
            y.vessel(0, 10);
        }
        y.begin(0, 10, 5);
        y.begin(0, 10, 4);
        y.pass(1);
        Due.due("19: no line", y.targets(0), 0);
        y.line(32 | 1, 1);
        Due.due("19: one line", y.targets(0), 1);
        Due.due("19: not joined", y.targets(1), 0);
        y.line(32 | 16 | 8, 1);
        Due.due("19: two lines", y.targets(0), 1 | 8);
        y.move(1, 3);
        Due.due("19: one is busy", y.targets(0), 1);
    }

    private static void quickest() {
        BatchCellars x = plant();
        Due.due("20: no batch", x.quickest(0, 0), BAD);
        x.begin(0, 60, 0);
        Due.due("20: nowhere", x.quickest(0, 0), NONE);
        Due.due("20: nowhere", x.quickest(0, 1), NONE);
        Due.due("20: what 2", x.quickest(0, 2), BAD);
        Due.due("20: what -1", x.quickest(0, -1), BAD);
        Due.due("20: what extreme", x.quickest(0, Integer.MIN_VALUE), BAD);
        for (int wrong : EXTREMES) {
            Due.due("20: batch " + wrong, x.quickest(wrong, 0), BAD);
        }
        x.pass(15);
        Due.due("20: the lowest of three", x.quickest(0, 0), 1);
        Due.due("20: minutes rounded up", x.quickest(0, 1), 7);
        x.begin(1, 5, 1);
        x.discard(1);
        Due.due("20: the first one must be cleaned", x.quickest(0, 0), 2);
        Due.due("20: minutes", x.quickest(0, 1), 7);
        x.begin(1, 5, 2);
        x.discard(1);
        x.begin(1, 5, 3);
        x.cleaning(2, 1, 4);
        Due.due("20: one has a batch", x.quickest(0, 0), 1);
        Due.due("20: with cleaning", x.quickest(0, 1), 11);
        Due.due("20: as the move does", x.move(0, 1) + x.batchOf(0, 4), 15 + 11);
        BatchCellars y = plant();
        y.line(7, 60);
        y.line(1 | 8, 30);
        y.begin(0, 60, 0);
        y.pass(15);
        Due.due("20: the lowest line, not the fastest", y.quickest(0, 1), 7);
        BatchCellars z = new BatchCellars();
        z.recipe(0);
        z.stage(0, 0, 1, 0, 9);
        z.stage(0, 1, 1, 0, 9);
        z.vessel(1, 9);
        z.vessel(0, 9);
        z.vessel(1, 9);
        z.line(3, 1);
        z.line(6, 9);
        z.begin(0, 9, 1);
        z.pass(1);
        Due.due("20: the faster line goes to the other", z.quickest(0, 0), 2);
        Due.due("20: in a minute", z.quickest(0, 1), 1);
    }

    private static void soonest() {
        BatchCellars x = plant();
        Due.due("21: no batch", x.soonest(0), BAD);
        x.begin(0, 90, 0);
        for (int wrong : EXTREMES) {
            Due.due("21: batch " + wrong, x.soonest(wrong), BAD);
        }
        Due.due("21: from its beginning", x.soonest(0), 15 + 8 + 9);
        x.begin(1, 90, 1);
        x.begin(1, 90, 2);
        Due.due("21: whatever is in the vessels", x.soonest(0), 32);
        Due.due("21: the last stage", x.soonest(1), 4);
        x.pass(4);
        Due.due("21: just now", x.soonest(1), 4);
        x.pass(13);
        Due.due("21: ripe before now", x.soonest(1), 17);
        Due.due("21: ripe before now, with stages ahead", x.soonest(0), 17 + 8 + 9);
        x.discard(1);
        x.cleaning(2, 1, 99);
        Due.due("21: without cleaning", x.soonest(0), 34);
        x.move(0, 1);
        Due.due("21: moved", x.soonest(0), 17 + 99 + 10 + 8 + 9);
        BatchCellars y = new BatchCellars();
        y.recipe(0);
        y.stage(0, 0, 5, 0, 9);
        y.stage(0, 0, 6, 1, 9);
        y.vessel(0, 50);
        y.begin(0, 50, 0);
        Due.due("21: its own vessel, no lines", y.soonest(0), 12);
        BatchCellars z = new BatchCellars();
        z.recipe(0);
        z.stage(0, 0, 5, 0, 9);
        z.stage(0, 1, 6, 1, 9);
        z.vessel(0, 50);
        z.vessel(1, 49);
        z.begin(0, 50, 0);
        Due.due("21: too small by one", z.soonest(0), NONE);
        z.vessel(2, 99);
        Due.due("21: of another kind", z.soonest(0), NONE);
        z.vessel(1, 50);
        Due.due("21: large enough", z.soonest(0), 12);
    }

    private static void soonestLoses() {
        BatchCellars x = new BatchCellars();
        x.recipe(0);
        x.stage(0, 0, 5, 0, 9);
        x.stage(0, 1, 5, 0, 9);
        x.stage(0, 2, 5, 0, 9);
        x.vessel(0, 100);
        x.vessel(1, 100);
        x.vessel(2, 89);
        x.begin(0, 99, 0);
        x.set(0, 100);
        Due.due("21: 90 are too many", x.soonest(0), NONE);
        x.discard(0);
        x.begin(0, 98, 0);
        Due.due("21: 89 are not", x.soonest(0), 15);
        x.set(0, 91);
        Due.due("21: 98 less 8 are", x.soonest(0), NONE);
        x.set(0, 92);
        Due.due("21: 98 less 9 are not", x.soonest(0), 15);
    }

    private static void urgent() {
        BatchCellars x = new BatchCellars();
        x.recipe(0);
        x.stage(0, 0, 5, 0, 50);
        x.recipe(0);
        x.stage(1, 0, 5, 5, 40);
        for (int i = 0; i < 5; i++) {
            x.vessel(0, 9);
        }
        Due.due("22: no batch", x.urgent(0), NONE);
        x.begin(0, 9, 0);
        x.begin(1, 9, 1);
        x.begin(0, 9, 2);
        x.begin(1, 9, 3);
        x.pass(10);
        x.begin(1, 9, 4);
        int[] order = {1, 3, 0, 2, 4};
        for (int place = 0; place < 5; place++) {
            Due.due("22: urgent(" + place + ")", x.urgent(place), order[place]);
        }
        Due.due("22: place 5", x.urgent(5), NONE);
        Due.due("22: place 6", x.urgent(6), NONE);
        Due.due("22: a far place", x.urgent(Integer.MAX_VALUE), NONE);
        Due.due("22: place -1", x.urgent(-1), BAD);
        Due.due("22: least place", x.urgent(Integer.MIN_VALUE), BAD);
        x.pass(35);
        Due.due("22: at their last minute", x.urgent(1), 3);
        x.pass(1);
        Due.due("22: the spoiled are left out", x.urgent(0), 0);
        Due.due("22: and three are left", x.urgent(3), NONE);
        x.discard(0);
        Due.due("22: gone", x.urgent(0), 2);
        Due.due("22: the last", x.urgent(1), 4);
        x.pass(99);
        Due.due("22: all are spoiled", x.urgent(0), NONE);
    }
}
