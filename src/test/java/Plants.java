/** Plants that several tests begin with. */
final class Plants {
    private Plants() {
    }

    /** A recipe of each product, each with one stage of kind 0 that spoils from minute 2 on. */
    static BatchCellars fourProducts(int vessels) {
        BatchCellars x = new BatchCellars();
        for (int product = 0; product < 4; product++) {
            x.recipe(product);
            x.stage(product, 0, 1, 0, 0);
        }
        for (int i = 0; i < vessels; i++) {
            x.vessel(0, 999);
        }
        return x;
    }

    /** One stage of kind 0 with this work and ageing; a vessel of 999. */
    static BatchCellars oneStage(int work, int least, int most) {
        BatchCellars x = new BatchCellars();
        x.recipe(0);
        x.stage(0, 0, work, least, most);
        x.vessel(0, 999);
        return x;
    }

    /** As much off-grade of product 0, made by recipe 0 in vessel 0, which is empty at minute 2. */
    static BatchCellars offGrade(int mass) {
        BatchCellars x = fourProducts(3);
        x.begin(0, mass, 0);
        x.pass(2);
        x.end(0);
        return x;
    }

    /** Two stages of the kinds 0 and 1, ripe at minute 1 each; a vessel of each kind; a line. */
    static BatchCellars pair(int speed) {
        BatchCellars x = new BatchCellars();
        x.recipe(0);
        x.stage(0, 0, 1, 0, 500);
        x.stage(0, 1, 1, 0, 500);
        x.vessel(0, 999);
        x.vessel(1, 999);
        x.line(3, speed);
        return x;
    }

    /** The same, with a batch of this mass that is ripe now, at minute 1. */
    static BatchCellars ripePair(int speed, int mass) {
        BatchCellars x = pair(speed);
        x.begin(0, mass, 0);
        x.pass(1);
        return x;
    }

    /** Four stages of kind 0, ripe after a minute each; vessels 0 and 1; a line. */
    static BatchCellars fourStages() {
        BatchCellars x = new BatchCellars();
        x.recipe(1);
        for (int i = 0; i < 4; i++) {
            x.stage(0, 0, 1, 0, 9);
        }
        x.vessel(0, 100);
        x.vessel(0, 100);
        x.line(3, 99);
        return x;
    }

    /** Batch 0 of fourStages in this stage, its work just begun. */
    static BatchCellars inStage(int stage) {
        BatchCellars x = fourStages();
        x.set(0, 0);
        x.begin(0, 50, 0);
        for (int i = 1; i <= stage; i++) {
            x.pass(1);
            x.move(0, i % 2);
            x.pass(1);
        }
        return x;
    }

    static BatchCellars atMinute(BatchCellars x, int minute) {
        for (int i = 0; i < 31 && x.count(4) < minute; i++) {
            x.pass(Math.min(999, minute - x.count(4)));
        }
        return x;
    }
}
