/** Promises 8 to 14, clause by clause. */
final class DoingEdges extends Edges {
    static void all() {
        beginArguments();
        beginAnswers();
        moveArguments();
        moveAnswers();
        end();
        discard();
        blendArguments();
        blendAnswers();
        pass();
        passAnswers();
        set();
    }

    private static void beginArguments() {
        by("Promise 8", "Begins a batch.");
        BatchCellars x = Plants.fourProducts(2);
        x.pass(12);
        x.begin(3, 45, 1);
        int[] told = {3, 45, 0, 1, 12, 0, 0, 0, 0, 13, 13};
        for (int what = 0; what < told.length; what++) {
            due("batchOf(0, " + what + ")", x.batchOf(0, what), told[what]);
        }
        due("count(3)", x.count(3), 1);
        due("count(5)", x.count(5), 45);
        by("Promise 8", "recipe: number of the recipe");
        range("begin(?, 1, 0)", 0, 3, recipe -> Plants.fourProducts(1).begin(recipe, 1, 0));
        range("begin(?, 1, 0)", 0, 0, recipe -> Plants.oneStage(1, 0, 0).begin(recipe, 1, 0));
        by("Promise 8", "mass: 1 to 999");
        range("begin(0, ?, 0)", 1, 999, mass -> Plants.oneStage(1, 0, 0).begin(0, mass, 0));
        by("Promise 8", "vessel: number of the vessel");
        for (int there = 0; there <= 6; there++) {
            int number = there;
            range("begin(0, 1, ?) of " + there, 0, there - 1,
                    vessel -> Plants.fourProducts(number).begin(0, 1, vessel));
        }
    }

    private static void beginAnswers() {
        by("Promise 8", "Returns the number of the batch;");
        BatchCellars x = Plants.fourProducts(6);
        for (int i = 0; i < 6; i++) {
            due("begin(0, 999, " + (5 - i) + ")", x.begin(0, 999, 5 - i), i);
        }
        x.discard(3);
        due("again", x.begin(1, 1, 2), 3);
        by("Promise 8", "INVALID_ARGUMENT if an argument is out of range;");
        BatchCellars y = new BatchCellars();
        y.recipe(0);
        y.vessel(0, 9);
        due("mass 0, without a stage", y.begin(0, 0, 0), BAD);
        due("mass 1000, without a stage", y.begin(0, 1000, 0), BAD);
        due("recipe 1", y.begin(1, 1, 0), BAD);
        due("recipe -1", y.begin(-1, 1, 0), BAD);
        due("vessel 1, without a stage", y.begin(0, 1, 1), BAD);
        due("vessel -1, without a stage", y.begin(0, 1, -1), BAD);
        due("mass 0 in a vessel with a batch", x.begin(0, 0, 0), BAD);
        due("mass 1000 in a vessel with a batch", x.begin(0, 1000, 0), BAD);
        by("Promise 8", "NOT_POSSIBLE if the recipe has no stage, or the vessel cannot take it.");
        due("no stage", y.begin(0, 1, 0), NOT);
        y.stage(0, 1, 1, 0, 0);
        due("another kind", y.begin(0, 1, 0), NOT);
        y.vessel(1, 9);
        due("too large", y.begin(0, 10, 1), NOT);
        due("it can take it", y.begin(0, 9, 1), 0);
        due("a batch in it", y.begin(0, 1, 1), NOT);
    }

    private static void moveArguments() {
        by("Promise 9", "Moves a batch to the vessel of its next stage.");
        BatchCellars x = Plants.ripePair(10, 100);
        x.move(0, 1);
        int[] told = {0, 99, 1, 1, 11, 0, 0, 0, 0, 12, 512};
        for (int what = 0; what < told.length; what++) {
            due("batchOf(0, " + what + ")", x.batchOf(0, what), told[what]);
        }
        by("Promise 9", "batch: number of the batch");
        range("move(?, 1)", 0, 0, batch -> Plants.ripePair(9, 9).move(batch, 1));
        range("move(?, 1)", 0, 5, batch -> begun(6).move(batch, 1));
        by("Promise 9", "vessel: number of the vessel");
        range("move(0, ?)", 0, 1, vessel -> Plants.ripePair(9, 9).move(0, vessel));
        range("move(0, ?)", 0, 5, vessel -> begun(6).move(0, vessel));
    }

    private static void moveAnswers() {
        by("Promise 9", "Returns the number of the line that is taken;");
        for (int line = 0; line < 3; line++) {
            BatchCellars x = new BatchCellars();
            x.recipe(0);
            x.stage(0, 0, 1, 0, 9);
            x.stage(0, 0, 1, 0, 9);
            for (int i = 0; i < 3; i++) {
                x.vessel(0, 9);
            }
            for (int i = 0; i < 3; i++) {
                x.line(i < line ? 5 : 3, 9);
            }
            x.begin(0, 9, 0);
            x.pass(1);
            due("the line that is taken", x.move(0, 1), line);
            due("kilograms in it", x.lineOf(line, 3), 9);
        }
        by("Promise 9", "INVALID_ARGUMENT if an argument is out of range;");
        BatchCellars y = Plants.pair(9);
        due("no batch", y.move(0, 1), BAD);
        y.begin(0, 9, 0);
        due("batch 1", y.move(1, 1), BAD);
        due("batch -1", y.move(-1, 1), BAD);
        due("vessel 2, not ripe", y.move(0, 2), BAD);
        due("vessel -1, not ripe", y.move(0, -1), BAD);
        due("vessel 33, not ripe", y.move(0, 33), BAD);
        by("Promise 9", "NOT_POSSIBLE if it cannot be moved there now.");
        due("not ripe", y.move(0, 1), NOT);
        y.pass(1);
        due("its own vessel", y.move(0, 0), NOT);
        due("possible", y.move(0, 1), 0);
        due("the last stage, at work", y.move(0, 0), NOT);
        y.pass(9);
        due("the last stage, ripe", y.move(0, 0), NOT);
        due("its own vessel", y.move(0, 1), NOT);
    }

    private static void end() {
        by("Promise 10", "Ends a batch.");
        BatchCellars x = Plants.oneStage(1, 0, 9);
        x.begin(0, 33, 0);
        x.pass(1);
        x.end(0);
        due("count(3)", x.count(3), 0);
        due("count(6)", x.count(6), 33);
        by("Promise 10", "batch: number of the batch");
        for (int there = 0; there <= 6; there++) {
            int number = there;
            range("end(?) of " + there, 0, there - 1, batch -> begun(number).end(batch));
        }
        by("Promise 10", "Returns its mass;");
        for (int mass = 1; mass <= 999; mass++) {
            BatchCellars y = Plants.oneStage(1, 0, 0);
            y.begin(0, mass, 0);
            y.pass(mass % 2 + 1);
            due("end of " + mass, y.end(0), mass);
        }
        by("Promise 10", "INVALID_ARGUMENT;");
        BatchCellars z = begun(2);
        z.discard(0);
        due("gone", z.end(0), BAD);
        due("not there", z.end(2), BAD);
        due("-1", z.end(-1), BAD);
        due("6", z.end(6), BAD);
        by("Promise 10", "NOT_POSSIBLE if it is not ripe, or not in its last stage.");
        due("not ripe", z.end(1), NOT);
        z.pass(1);
        due("ripe", z.end(1), 1);
        for (int stage = 0; stage < 3; stage++) {
            BatchCellars y = Plants.inStage(stage);
            due("neither", y.end(0), NOT);
            y.pass(1);
            due("ripe, in stage " + stage + " of 4", y.end(0), NOT);
            y.pass(50);
            due("spoiled, in stage " + stage + " of 4", y.end(0), NOT);
        }
        BatchCellars last = Plants.inStage(3);
        due("not ripe in stage 3", last.end(0), NOT);
        last.pass(1);
        due("ripe in stage 3", last.end(0), 50);
    }

    /** Batches of 1 in all vessels of as many. */
    private static BatchCellars begun(int number) {
        BatchCellars x = Plants.fourProducts(number);
        for (int i = 0; i < number; i++) {
            x.begin(0, 1, i);
        }
        return x;
    }

    private static void discard() {
        by("Promise 11", "Throws a batch away.");
        BatchCellars x = begun(2);
        x.discard(0);
        due("count(3)", x.count(3), 1);
        due("count(7)", x.count(7), 1);
        due("the other one is there", x.batchOf(1, 1), 1);
        by("Promise 11", "batch: number of the batch");
        for (int there = 0; there <= 6; there++) {
            int number = there;
            range("discard(?) of " + there, 0, there - 1, batch -> begun(number).discard(batch));
        }
        by("Promise 11", "Returns its mass;");
        for (int mass = 1; mass <= 999; mass++) {
            BatchCellars y = Plants.oneStage(1, 0, 0);
            y.begin(0, mass, 0);
            due("discard of " + mass, y.discard(0), mass);
        }
        BatchCellars moved = Plants.ripePair(99, 999);
        moved.move(0, 1);
        due("its mass then", moved.discard(0), 990);
        by("Promise 11", "INVALID_ARGUMENT.");
        due("gone", moved.discard(0), BAD);
        due("not there", x.discard(0), BAD);
        due("-1", x.discard(-1), BAD);
        due("6", x.discard(6), BAD);
        due("lost as before", x.count(7), 1);
    }

    private static void blendArguments() {
        by("Promise 12", "Blends off-grade into a batch.");
        BatchCellars x = Plants.offGrade(50);
        x.begin(0, 100, 1);
        x.blend(0, 7);
        due("its mass", x.batchOf(0, 1), 107);
        due("blended into it", x.batchOf(0, 8), 7);
        due("off-grade", x.count(30), 43);
        due("mass begun", x.count(5), 150);
        due("mass now", x.count(8), 107);
        by("Promise 12", "batch: number of the batch");
        range("blend(?, 1)", 0, 0, batch -> {
            BatchCellars y = Plants.offGrade(50);
            y.begin(0, 100, 1);
            return y.blend(batch, 1);
        });
        range("blend(?, 1)", 0, 5, batch -> begun(6).blend(batch, 1));
        by("Promise 12", "mass: 1 to 999");
        range("blend(0, ?)", 1, 999, mass -> {
            BatchCellars y = Plants.offGrade(50);
            y.begin(0, 100, 1);
            return y.blend(0, mass);
        });
    }

    private static void blendAnswers() {
        by("Promise 12", "Returns its mass then;");
        for (int mass = 1; mass <= 333; mass++) {
            BatchCellars x = Plants.offGrade(999);
            x.set(1, 50);
            x.begin(0, 666, 1);
            due("666 and " + mass, x.blend(0, mass), 666 + mass);
        }
        by("Promise 12", "INVALID_ARGUMENT if an argument is out of range;");
        BatchCellars y = begun(1);
        due("mass 0, without off-grade", y.blend(0, 0), BAD);
        due("mass -1, without off-grade", y.blend(0, -1), BAD);
        due("mass 1000, without off-grade", y.blend(0, 1000), BAD);
        due("batch 1", y.blend(1, 1), BAD);
        due("batch -1", y.blend(-1, 1), BAD);
        by("Promise 12", "NOT_POSSIBLE if it cannot be blended so, or there is not so much off-grade"
                + " of its product.");
        due("without off-grade", y.blend(0, 1), NOT);
        for (int store = 1; store <= 40; store++) {
            BatchCellars x = Plants.offGrade(store);
            x.set(1, 50);
            x.begin(0, 100, 1);
            due("one more than " + store, x.blend(0, store + 1), NOT);
            due("all of " + store, x.blend(0, store), 100 + store);
            due("none is left", x.blend(0, 1), NOT);
        }
        BatchCellars z = Plants.offGrade(50);
        z.begin(1, 100, 1);
        due("off-grade of another product", z.blend(0, 1), NOT);
        z.begin(0, 100, 2);
        due("above a tenth", z.blend(1, 11), NOT);
        due("a tenth", z.blend(1, 10), 110);
    }

    private static void pass() {
        by("Promise 13", "Lets minutes go by.");
        for (int minutes = 1; minutes <= 999; minutes++) {
            BatchCellars x = new BatchCellars();
            due("pass(" + minutes + ")", x.pass(minutes), 0);
            due("the time", x.count(4), minutes);
        }
        by("Promise 13", "minutes: 1 to 999");
        range("pass(?)", 1, 999, minutes -> new BatchCellars().pass(minutes));
    }

    private static void passAnswers() {
        by("Promise 13", "Returns how many batches spoil in them;");
        BatchCellars x = begun(6);
        due("in their last good minute", x.pass(1), 0);
        due("six at once", x.pass(1), 6);
        due("none is left", x.pass(999), 0);
        BatchCellars y = Plants.fourProducts(6);
        for (int i = 0; i < 6; i++) {
            y.begin(0, 1, i);
            due("the one from two minutes ago spoils", y.pass(1), i > 0 ? 1 : 0);
        }
        due("the last one", y.pass(1), 1);
        due("spoiled in all", y.count(10), 6);
        BatchCellars z = Plants.oneStage(1, 0, 500);
        z.begin(0, 1, 0);
        due("in far more minutes", z.pass(999), 1);
        by("Promise 13", "INVALID_ARGUMENT if minutes is out of range;");
        BatchCellars late = Plants.atMinute(new BatchCellars(), 30000);
        due("0 at the end", late.pass(0), BAD);
        due("-1 at the end", late.pass(-1), BAD);
        due("1000 at the end", late.pass(1000), BAD);
        due("the most at the end", late.pass(Integer.MAX_VALUE), BAD);
        due("the least at the end", late.pass(Integer.MIN_VALUE), BAD);
        by("Promise 13", "LIMIT_REACHED if the time would be above 30000.");
        due("1 at the end", late.pass(1), FULL);
        due("999 at the end", late.pass(999), FULL);
        for (int minutes = 1; minutes <= 999; minutes++) {
            BatchCellars near = Plants.atMinute(new BatchCellars(), 30000 - minutes);
            due("above 30000", near.pass(minutes + 1), minutes == 999 ? BAD : FULL);
            due("to 30000", near.pass(minutes), 0);
            due("the time", near.count(4), 30000);
        }
    }

    private static void set() {
        by("Promise 14", "Sets a setting.");
        BatchCellars x = new BatchCellars();
        x.set(0, 77);
        due("setting 0", x.count(20), 77);
        due("setting 1 as it was", x.count(21), 10);
        x.set(1, 44);
        due("setting 1", x.count(21), 44);
        due("setting 0 as it was", x.count(20), 77);
        by("Promise 14", "what: 0 or 1");
        range("set(?, 5)", 0, 1, what -> new BatchCellars().set(what, 5));
        by("Promise 14", "value: a value in its range");
        range("set(0, ?)", 0, 100, value -> new BatchCellars().set(0, value));
        range("set(1, ?)", 0, 50, value -> new BatchCellars().set(1, value));
        by("Promise 14", "Returns what it was;");
        for (int value = 0, was = 10; value <= 100; value++) {
            due("set(0, " + value + ")", x.set(0, value), value == 0 ? 77 : was);
            was = value;
        }
        for (int value = 0, was = 44; value <= 50; value++) {
            due("set(1, " + value + ")", x.set(1, value), was);
            was = value;
        }
        by("Promise 14", "INVALID_ARGUMENT if an argument is out of range.");
        due("set(0, 101)", x.set(0, 101), BAD);
        due("set(0, -1)", x.set(0, -1), BAD);
        due("set(1, 51)", x.set(1, 51), BAD);
        due("set(1, 100)", x.set(1, 100), BAD);
        due("set(1, -1)", x.set(1, -1), BAD);
        due("set(2, 5)", x.set(2, 5), BAD);
        due("set(-1, 5)", x.set(-1, 5), BAD);
        due("setting 0 as it was", x.count(20), 100);
        due("setting 1 as it was", x.count(21), 50);
    }
}
