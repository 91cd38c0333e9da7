import java.util.function.Supplier;
import java.util.function.ToIntFunction;

/** The terms: changes and errors; promise 23. */
final class ChangeEdges extends Edges {
    private static final String CHANGES = "Changes and errors";

    static void all() {
        plainWords();
        whatIsAChange();
        whatIsNoChange();
        fourStates();
        everythingButTheText();
        whatIsToldLater();
        invalidFirst();
        notPossibleBeforeTheLimit();
        errorsOfBuilding();
        errorsOfDoing();
        nothingWithThisNumber();
        invalidArgument();
        otherConstants();
        undo();
        undoOfNothing();
    }

    private static void plainWords() {
        Sentences.plain(CHANGES, "Ahead of the calls recipe, stage, vessel, line, cleaning, stageOf"
                + " the interface says: ---- recipes, vessels, lines.");
        Sentences.plain(CHANGES, "Ahead of the calls begin, move, end, discard, blend, pass, set the"
                + " interface says: ---- batches.");
        Sentences.plain(CHANGES, "Ahead of the calls batchOf, vesselOf, lineOf, count the interface"
                + " says: ---- what there is.");
        Sentences.plain(CHANGES, "Ahead of the calls targets, quickest, soonest, urgent, undo the"
                + " interface says: ---- what could be.");
        Sentences.plain(CHANGES, "Ahead of the calls type, clearText, fault, play the interface"
                + " says: ---- texts.");
    }

    /** Off-grade; batch 0 can move, batch 1 can end, batch 2 can be blended; a text; 4 states. */
    static BatchCellars plant() {
        BatchCellars x = new BatchCellars();
        x.recipe(1);
        x.stage(0, 0, 1, 2, 20);
        x.stage(0, 1, 2, 3, 30);
        x.recipe(2);
        x.stage(1, 0, 1, 1, 20);
        x.recipe(3);
        for (int i = 0; i < 5; i++) {
            x.vessel(i == 2 ? 1 : 0, 500);
        }
        x.line(7, 30);
        x.cleaning(1, 3, 8);
        x.begin(0, 60, 0);
        x.pass(3);
        x.move(0, 2);
        x.discard(0);
        x.begin(1, 500, 1);
        x.pass(22);
        x.end(0);
        x.begin(0, 100, 0);
        x.begin(1, 100, 1);
        x.begin(0, 7, 3);
        x.discard(2);
        x.begin(1, 100, 3);
        x.pass(3);
        Due.type(x, "t1;e1;");
        return x;
    }

    private static void change(String call, ToIntFunction<BatchCellars> made) {
        BatchCellars x = plant();
        due(call + " returns no error", made.applyAsInt(x) >= 0 ? 1 : 0, 1);
        due(call + " behind 4 states", x.count(11), 4);
        due("undo() of " + call, x.undo(), 3);
        Told.same("as ahead of " + call, plantToldBy(plant()), plantToldBy(x));
    }

    private static int[] plantToldBy(BatchCellars x) {
        return Told.plantOf(Told.by(x));
    }

    private static void whatIsAChange() {
        by(CHANGES, "The changes are the calls of recipe, stage, vessel, line, cleaning, begin, move,"
                + " end, discard, blend, pass, set and play that return no error.");
        change("recipe", x -> x.recipe(1));
        change("stage", x -> x.stage(2, 1, 1, 0, 0));
        change("vessel", x -> x.vessel(2, 9));
        change("line", x -> x.line(9, 9));
        change("cleaning", x -> x.cleaning(0, 1, 9));
        change("cleaning to what it was", x -> x.cleaning(0, 1, 5));
        change("begin", x -> x.begin(0, 9, 4));
        change("move", x -> x.move(0, 2));
        change("end", x -> x.end(1));
        change("discard", x -> x.discard(2));
        change("blend", x -> x.blend(2, 9));
        change("pass", x -> x.pass(1));
        change("set", x -> x.set(0, 90));
        change("set to what it was", x -> x.set(1, 10));
        change("play", BatchCellars::play);
    }

    private static void noChange(String call, ToIntFunction<BatchCellars> made) {
        BatchCellars x = plant();
        x.undo();
        x.undo();
        BatchCellars y = plant();
        y.undo();
        y.undo();
        made.applyAsInt(x);
        due("states behind " + call, x.count(11), 2);
        Told.same("the plant behind " + call, plantToldBy(y), plantToldBy(x));
    }

    private static void whatIsNoChange() {
        by(CHANGES, "The changes are the calls of recipe, stage, vessel, line, cleaning, begin, move,"
                + " end, discard, blend, pass, set and play that return no error.");
        noChange("stageOf", x -> x.stageOf(0, 0, 0));
        noChange("batchOf", x -> x.batchOf(0, 0));
        noChange("vesselOf", x -> x.vesselOf(0, 0));
        noChange("lineOf", x -> x.lineOf(0, 0));
        noChange("count", x -> x.count(0));
        noChange("targets", x -> x.targets(0));
        noChange("quickest", x -> x.quickest(0, 1));
        noChange("soonest", x -> x.soonest(0));
        noChange("urgent", x -> x.urgent(0));
        noChange("fault", x -> x.fault(0));
        noChange("recipe with an error", x -> x.recipe(4));
        noChange("pass with an error", x -> x.pass(0));
        BatchCellars y = plant();
        y.undo();
        y.type('t');
        y.clearText();
        due("states behind type and clearText", y.count(11), 3);
    }

    private static void fourStates() {
        by(CHANGES, "A history of at most 4 states is kept: each change records everything before it"
                + " but the text, and if there are 5 states then, the oldest one is dropped.");
        for (int changes = 0; changes <= 23; changes++) {
            BatchCellars x = new BatchCellars();
            for (int i = 1; i <= changes; i++) {
                x.pass(i);
                due("states behind " + i, x.count(11), Math.min(4, i));
            }
            int time = changes * (changes + 1) / 2;
            for (int i = changes; i > Math.max(0, changes - 4); i--) {
                due("the time ahead of undo", x.count(4), time);
                due("undo of " + i, x.undo(), i - 1 - Math.max(0, changes - 4));
                time -= i;
            }
            due("the oldest state", x.count(4), time);
            due("no more", x.undo(), NOT);
            for (int i = 1; i <= changes; i++) {
                due("once more", x.pass(1), 0);
                due("states", x.count(11), Math.min(4, i));
            }
        }
    }

    private static void everythingButTheText() {
        by(CHANGES, "each change records everything before it but the text,");
        BatchCellars x = new BatchCellars();
        x.pass(5);
        Due.type(x, "t7;");
        due("played", x.play(), 1);
        Due.type(x, "q");
        x.pass(1);
        x.undo();
        due("the text as it was typed", x.count(12), 4);
        due("its fault", x.fault(0), 3);
        due("the time", x.count(4), 12);
        x.undo();
        due("the text", x.count(12), 4);
        due("the time", x.count(4), 5);
        x.clearText();
        x.undo();
        due("no text comes back", x.count(12), 0);
        due("the time", x.count(4), 0);
        BatchCellars y = plant();
        due("a batch moves", y.move(0, 2), 0);
        due("one ends", y.end(1), 100);
        due("one is blended", y.blend(2, 3), 103);
        due("the other table", y.cleaning(0, 0, 70), 0);
        for (int i = 0; i < 4; i++) {
            due("undo", y.undo(), 3 - i);
        }
        Told.same("as ahead of four changes", plantToldBy(plant()), plantToldBy(y));
    }

    private static void whatIsToldLater() {
        by(CHANGES, "each change records everything before it but the text,");
        BatchCellars x = plant();
        x.pass(1);
        x.undo();
        toldLater(x);
        BatchCellars y = plant();
        y.play();
        y.undo();
        toldLater(y);
        BatchCellars z = plant();
        z.clearText();
        z.play();
        toldLater(z);
    }

    /** The mass that a batch had at its beginning and its product are told by what is done then. */
    private static void toldLater(BatchCellars x) {
        due("above a tenth", x.blend(2, 11), NOT);
        due("a tenth", x.blend(2, 10), 110);
        due("off-grade left", x.count(32), 490);
        due("three spoil", x.pass(30), 3);
        due("one of them ends", x.end(1), 100);
        due("off-grade of its product", x.count(32), 590);
        due("begin in the vessel of product 2", x.begin(0, 1, 1), 1);
        due("cleaned", x.vesselOf(1, 4), 5);
    }

    // ---- errors

    private static void invalidFirst() {
        by(CHANGES, "INVALID_ARGUMENT is returned rather than NOT_POSSIBLE,");
        BatchCellars x = Plants.inStage(3);
        due("stage with a batch", x.stage(0, 0, 0, 0, 0), BAD);
        due("begin in a vessel with a batch", x.begin(0, 0, 1), BAD);
        due("move from the last stage", x.move(0, 2), BAD);
        due("blend in the last stage", x.blend(0, 1000), BAD);
        by(CHANGES, "If several errors apply to a call, INVALID_ARGUMENT is returned rather than"
                + " NOT_POSSIBLE, NOT_POSSIBLE rather than LIMIT_REACHED, and LIMIT_REACHED rather"
                + " than NOT_FOUND.");
        BatchCellars y = new BatchCellars();
        for (int i = 0; i < 6; i++) {
            y.recipe(0);
            y.vessel(0, 9);
            y.line(3, 9);
        }
        for (int i = 0; i < 5; i++) {
            y.stage(0, 0, 1, 0, 9);
        }
        Plants.atMinute(y, 30000);
        for (int i = 0; i < 80; i++) {
            y.type('t');
        }
        due("a fifth recipe", y.recipe(4), BAD);
        due("a fifth stage", y.stage(0, 0, 1, 9, 8), BAD);
        due("a seventh vessel", y.vessel(3, 9), BAD);
        due("a fourth line", y.line(64, 9), BAD);
        due("above 30000", y.pass(1000), BAD);
        due("an 81st sign", y.type(127), BAD);
        due("no stage 4", y.stageOf(0, 4, 5), BAD);
        due("no batch in it", y.vesselOf(6, 2), BAD);
        due("no batch is urgent", y.urgent(-1), BAD);
        due("no way to go", y.quickest(0, 0), BAD);
        y.clearText();
        due("no fault", y.fault(2), BAD);
    }

    private static void notPossibleBeforeTheLimit() {
        by(CHANGES, "NOT_POSSIBLE rather than LIMIT_REACHED,");
        for (int stage = 0; stage < 4; stage++) {
            BatchCellars x = Plants.inStage(stage);
            due("a fifth stage with a batch", x.stage(0, 0, 1, 0, 9), NOT);
            x.discard(0);
            due("a fifth stage", x.stage(0, 0, 1, 0, 9), FULL);
        }
    }

    private static void error(Supplier<BatchCellars> plant, ToIntFunction<BatchCellars> made,
            int answer) {
        BatchCellars x = plant.get();
        due("the error", made.applyAsInt(x), answer);
        Told.same("behind the error " + answer, Told.by(plant.get()), Told.by(x));
        BatchCellars y = plant.get();
        BatchCellars z = plant.get();
        made.applyAsInt(y);
        for (int i = 0; i < 4; i++) {
            due("undo behind the error", y.undo(), z.undo());
        }
        Told.same("states behind the error " + answer, Told.by(z), Told.by(y));
    }

    private static BatchCellars fullPlant() {
        BatchCellars x = plant();
        x.recipe(3);
        x.stage(3, 2, 1, 0, 0);
        x.stage(3, 2, 1, 0, 0);
        x.stage(3, 2, 1, 0, 0);
        x.stage(3, 2, 1, 0, 0);
        x.vessel(0, 9);
        x.line(7, 9);
        x.line(7, 9);
        return x;
    }

    private static void errorsOfBuilding() {
        by(CHANGES, "A call that returns an error changes nothing.");
        error(ChangeEdges::plant, x -> x.recipe(4), BAD);
        error(ChangeEdges::fullPlant, x -> x.recipe(0), FULL);
        error(ChangeEdges::plant, x -> x.stage(2, 3, 1, 0, 0), BAD);
        error(ChangeEdges::plant, x -> x.stage(0, 0, 1, 0, 0), NOT);
        error(ChangeEdges::fullPlant, x -> x.stage(3, 0, 1, 0, 0), FULL);
        error(ChangeEdges::plant, x -> x.vessel(0, 1000), BAD);
        error(ChangeEdges::fullPlant, x -> x.vessel(0, 9), FULL);
        error(ChangeEdges::plant, x -> x.line(32, 9), BAD);
        error(ChangeEdges::fullPlant, x -> x.line(3, 9), FULL);
        error(ChangeEdges::plant, x -> x.cleaning(0, 1, 100), BAD);
        error(ChangeEdges::plant, x -> x.set(0, 101), BAD);
        error(ChangeEdges::plant, x -> x.set(2, 1), BAD);
        error(ChangeEdges::plant, x -> x.type(127), BAD);
        error(BatchCellars::new, BatchCellars::undo, NOT);
        error(() -> Plants.oneStage(1, 0, 0), x -> x.fault(2), BAD);
        BatchCellars full = new BatchCellars();
        Due.type(full, "t1;".repeat(25) + "t001;");
        due("an 81st sign", full.type(';'), FULL);
        due("a bad sign", full.type(0), BAD);
        due("the text as it was", full.fault(1), NONE);
        due("its commands", full.play(), 26);
    }

    private static void errorsOfDoing() {
        by(CHANGES, "A call that returns an error changes nothing.");
        error(ChangeEdges::plant, x -> x.begin(0, 1000, 4), BAD);
        error(ChangeEdges::plant, x -> x.begin(0, 501, 4), NOT);
        error(ChangeEdges::plant, x -> x.begin(0, 9, 1), NOT);
        error(ChangeEdges::plant, x -> x.begin(2, 9, 4), NOT);
        error(ChangeEdges::plant, x -> x.move(0, 5), BAD);
        error(ChangeEdges::plant, x -> x.move(0, 4), NOT);
        error(ChangeEdges::plant, x -> x.move(1, 2), NOT);
        error(ChangeEdges::plant, x -> x.end(3), BAD);
        error(ChangeEdges::plant, x -> x.end(0), NOT);
        error(ChangeEdges::plant, x -> x.discard(3), BAD);
        error(ChangeEdges::plant, x -> x.blend(2, 0), BAD);
        error(ChangeEdges::plant, x -> x.blend(2, 11), NOT);
        error(ChangeEdges::plant, x -> x.pass(1000), BAD);
        error(() -> Plants.atMinute(plant(), 29999), x -> x.pass(2), FULL);
        error(ChangeEdges::faultyText, BatchCellars::play, NOT);
    }

    private static BatchCellars faultyText() {
        BatchCellars x = plant();
        Due.type(x, "x0;x2;x1;");
        return x;
    }

    private static void nothingWithThisNumber() {
        by(CHANGES, "If there is no recipe, vessel, line or batch with a certain number, this is"
                + " INVALID_ARGUMENT.");
        int[] numbers = {-1, Integer.MIN_VALUE, 6, 32, 256, Integer.MAX_VALUE};
        for (int number : numbers) {
            BatchCellars x = plant();
            due("stage of recipe " + number, x.stage(number, 0, 1, 0, 0), BAD);
            due("stageOf recipe " + number, x.stageOf(number, 0, 0), BAD);
            due("begin of recipe " + number, x.begin(number, 1, 4), BAD);
            due("begin in vessel " + number, x.begin(0, 1, number), BAD);
            due("move to vessel " + number, x.move(0, number), BAD);
            due("vesselOf vessel " + number, x.vesselOf(number, 0), BAD);
            due("lineOf line " + number, x.lineOf(number, 0), BAD);
            due("move of batch " + number, x.move(number, 2), BAD);
            due("end of batch " + number, x.end(number), BAD);
            due("discard of batch " + number, x.discard(number), BAD);
            due("blend of batch " + number, x.blend(number, 1), BAD);
            due("batchOf batch " + number, x.batchOf(number, 0), BAD);
            due("targets of batch " + number, x.targets(number), BAD);
            due("quickest of batch " + number, x.quickest(number, 0), BAD);
            due("soonest of batch " + number, x.soonest(number), BAD);
        }
        BatchCellars y = plant();
        due("recipe 3", y.stage(3, 0, 1, 0, 0) + y.stageOf(3, 0, 0) + y.begin(3, 1, 4), 3 * BAD);
        due("vessel 5", y.begin(0, 1, 5) + y.move(0, 5) + y.vesselOf(5, 0), 3 * BAD);
        due("a line that joins vessel 5", y.line(33, 1), BAD);
        due("line 1", y.lineOf(1, 0), BAD);
        due("batch 3", y.end(3) + y.discard(3) + y.blend(3, 1) + y.batchOf(3, 0), 4 * BAD);
        due("batch 3", y.move(3, 2) + y.targets(3) + y.quickest(3, 0) + y.soonest(3), 4 * BAD);
        y.undo();
        y.undo();
        due("batch 2, undone", y.end(2), BAD);
        y.discard(0);
        due("batch 0, thrown away", y.end(0), BAD);
        due("batch 1 is still there", y.batchOf(1, 1), 100);
    }

    private static void invalidArgument() {
        by(CHANGES, "The constants: INVALID_ARGUMENT = -1: An argument is out of its range, or there"
                + " is no such recipe, vessel, line or batch.");
        due("INVALID_ARGUMENT", BatchCellars.INVALID_ARGUMENT, -1);
        due("a number out of its range", new BatchCellars().recipe(4), -1);
        due("no such batch", new BatchCellars().end(0), -1);
    }

    private static void otherConstants() {
        by(CHANGES, "NOT_POSSIBLE = -2: The call is not possible in the present state.");
        due("NOT_POSSIBLE", BatchCellars.NOT_POSSIBLE, -2);
        due("nothing to undo", new BatchCellars().undo(), -2);
        by(CHANGES, "LIMIT_REACHED = -3: A fixed limit has been reached.");
        due("LIMIT_REACHED", BatchCellars.LIMIT_REACHED, -3);
        due("above 30000", Plants.atMinute(new BatchCellars(), 30000).pass(1), -3);
        by(CHANGES, "NOT_FOUND = -4: There is no such value.");
        due("NOT_FOUND", BatchCellars.NOT_FOUND, -4);
        due("no fault", new BatchCellars().fault(0), -4);
    }

    // ---- promise 23

    private static void undo() {
        by("Promise 23", "Restores the latest state of the history, which is removed from it.");
        BatchCellars x = new BatchCellars();
        for (int i = 1; i <= 4; i++) {
            x.recipe(4 - i);
        }
        for (int left = 3; left >= 0; left--) {
            x.undo();
            due("recipes", x.count(0), left);
            due("states", x.count(11), left);
        }
        BatchCellars y = new BatchCellars();
        y.pass(1);
        y.pass(2);
        y.undo();
        y.pass(4);
        due("one undone, another one made", y.count(4), 5);
        y.undo();
        due("the latest one undone", y.count(4), 1);
        y.undo();
        due("the one ahead of it", y.count(4), 0);
        by("Promise 23", "Returns the number of states that are left in the history;");
        for (int changes = 1; changes <= 8; changes++) {
            BatchCellars z = new BatchCellars();
            for (int i = 0; i < changes; i++) {
                z.pass(1);
            }
            for (int left = Math.min(4, changes) - 1; left >= 0; left--) {
                due("undo of " + changes, z.undo(), left);
            }
        }
    }

    private static void undoOfNothing() {
        by("Promise 23", "NOT_POSSIBLE if it is empty.");
        BatchCellars x = new BatchCellars();
        due("no change yet", x.undo(), NOT);
        x.type('t');
        due("a text is no change", x.undo(), NOT);
        x.pass(1);
        due("one change", x.undo(), 0);
        due("an undo is no change", x.undo(), NOT);
        for (int i = 0; i < 9; i++) {
            x.pass(1);
        }
        for (int i = 0; i < 4; i++) {
            x.undo();
        }
        due("more than 4 changes", x.undo(), NOT);
        due("the time then", x.count(4), 5);
    }
}
