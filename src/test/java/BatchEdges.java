/** The terms: batches, how they begin, move and end, and what is blended into them. */
final class BatchEdges extends Edges {
    private static final String BATCHES = "Batches";

    static void all() {
        Sentences.plain(BATCHES, "Beginning, moving, ending");
        sixBatches();
        lowestNumber();
        whatABatchHas();
        workBegan();
        age();
        ripe();
        spoiledFromAMinuteOn();
        staysSpoiled();
        vesselToBeginIn();
        cleanedAtOnce();
        vesselToMoveTo();
        mustBeRipe();
        lowestFreeLine();
        minutesThroughTheLine();
        lineIsBusy();
        nextWorkBegins();
        oldVesselIsFree();
        massIsLost();
        endInTheLastStage();
        madeOrOffGrade();
        thrownAway();
        blendAtWorkOrNot();
        blendNotSpoiled();
        blendWithRoom();
        blendShare();
    }

    // ---- what a batch is

    private static void sixBatches() {
        by(BATCHES, "There are at most 6 batches at a time (one in a vessel), with numbers 0 to 5;");
        BatchCellars x = Plants.fourProducts(6);
        for (int i = 0; i < 6; i++) {
            due("batch " + i, x.begin(i % 4, 1 + i, 5 - i), i);
        }
        for (int i = 0; i < 6; i++) {
            due("another batch in vessel " + i, x.begin(0, 1, i), NOT);
            due("the batch in vessel " + i, x.vesselOf(i, 2), 5 - i);
            due("the vessel of batch " + i, x.batchOf(i, 3), 5 - i);
            due("the mass of batch " + i, x.batchOf(i, 1), 1 + i);
        }
        due("no vessel for a seventh", x.begin(0, 1, 6), BAD);
        due("no batch 6", x.batchOf(6, 0), BAD);
        due("count(3)", x.count(3), 6);
        due("count(8)", x.count(8), 21);
    }

    private static void lowestNumber() {
        by(BATCHES, "a new one gets the lowest number that none has.");
        for (int gone = 0; gone < 64; gone++) {
            BatchCellars x = Plants.fourProducts(6);
            for (int i = 0; i < 6; i++) {
                x.begin(0, 1, i);
            }
            for (int i = 5; i >= 0; i--) {
                due("discard(" + i + ")", (gone >> i & 1) == 1 ? x.discard(i) : 1, 1);
            }
            int vessel = 0;
            for (int i = 0; i < 6; i++) {
                if ((gone >> i & 1) == 1) {
                    while (x.vesselOf(vessel, 2) >= 0) {
                        vessel++;
                    }
                    due("without " + gone + ", a new one", x.begin(0, 2, vessel), i);
                }
            }
        }
    }

    private static void whatABatchHas() {
        by(BATCHES, "A batch has a recipe, a mass and a stage, and is in a vessel.");
        BatchCellars x = new BatchCellars();
        for (int recipe = 0; recipe < 4; recipe++) {
            x.recipe(3 - recipe);
            x.stage(recipe, 0, 1, 0, 9);
            x.stage(recipe, 0, 1, 0, 9);
            x.vessel(0, 999);
        }
        x.vessel(0, 999);
        x.line(31, 1);
        for (int i = 0; i < 4; i++) {
            x.begin(3 - i, 999 - i, i);
        }
        x.pass(1);
        x.move(2, 4);
        for (int i = 0; i < 4; i++) {
            due("recipe of batch " + i, x.batchOf(i, 0), 3 - i);
            due("mass of batch " + i, x.batchOf(i, 1), i == 2 ? 997 - 9 : 999 - i);
            due("stage of batch " + i, x.batchOf(i, 2), i == 2 ? 1 : 0);
            due("vessel of batch " + i, x.batchOf(i, 3), i == 2 ? 4 : i);
        }
    }

    private static void workBegan() {
        by(BATCHES, "It came into the stage at some time, at which its work began;");
        BatchCellars x = Plants.pair(10);
        due("begin at 0", x.begin(0, 20, 0) + x.batchOf(0, 4), 0);
        x.pass(7);
        due("it stays", x.batchOf(0, 4), 0);
        x.move(0, 1);
        due("behind the line", x.batchOf(0, 4), 7 + 2);
        x.pass(50);
        due("it stays", x.batchOf(0, 4), 9);
        x.begin(0, 20, 0);
        due("begin at 57", x.batchOf(1, 4), 57);
    }

    /** A batch of product 1 at minute 30 in a vessel that is cleaned for 20 minutes. */
    private static BatchCellars cleanedFor20(int work, int least, int most) {
        BatchCellars x = Plants.oneStage(1, 0, 0);
        x.recipe(1);
        x.stage(1, 0, work, least, most);
        x.cleaning(0, 1, 20);
        x.begin(0, 1, 0);
        x.discard(0);
        x.pass(30);
        x.begin(1, 1, 0);
        return x;
    }

    private static void age() {
        by(BATCHES, "its age is the time less that and less the minutes of work of the stage (0 as"
                + " long as it is at work).");
        BatchCellars x = cleanedFor20(40, 10, 30);
        for (int minute = 30; minute <= 190; minute++) {
            due("age at minute " + minute, x.batchOf(0, 5), Math.max(0, minute - 50 - 40));
            x.pass(1);
        }
        Plants.atMinute(x, 30000);
        due("age at minute 30000", x.batchOf(0, 5), 30000 - 90);
        BatchCellars y = Plants.ripePair(9, 81);
        y.pass(400);
        due("age in stage 0", y.batchOf(0, 5), 400);
        y.move(0, 1);
        for (int minute = 401; minute <= 450; minute++) {
            due("age in stage 1 at " + minute, y.batchOf(0, 5), Math.max(0, minute - 410 - 1));
            y.pass(1);
        }
    }

    private static void ripe() {
        by(BATCHES, "It is ripe if the work is over and its age is at least the least of the stage.");
        for (int least : new int[] {0, 1, 2, 25}) {
            BatchCellars x = cleanedFor20(15, least, 30);
            for (int minute = 30; minute <= 130; minute++) {
                int ripe = minute >= 50 + 15 + least ? 1 : 0;
                due("least " + least + ", ripe at " + minute, x.batchOf(0, 6), ripe);
                x.pass(1);
            }
        }
    }

    private static void spoiledFromAMinuteOn() {
        by(BATCHES, "It is spoiled from the minute on in which its age is above the greatest of a"
                + " stage while it is in this stage;");
        for (int most : new int[] {0, 1, 2, 25}) {
            BatchCellars x = cleanedFor20(15, 0, most);
            for (int minute = 30; minute <= 130; minute++) {
                int spoiled = minute > 50 + 15 + most ? 1 : 0;
                due("most " + most + ", spoiled at " + minute, x.batchOf(0, 7), spoiled);
                due("spoils in the next minute", x.pass(1), minute == 50 + 15 + most ? 1 : 0);
            }
        }
        BatchCellars y = Plants.fourStages();
        y.begin(0, 50, 0);
        for (int stage = 1; stage < 4; stage++) {
            due("none spoils up to its last minute", y.pass(10 + (stage > 1 ? 1 : 0)), 0);
            due("age at its last minute", y.batchOf(0, 5), 9);
            due("moved in its last minute", y.move(0, stage % 2), 0);
            due("a new age in the next stage", y.batchOf(0, 5), 0);
            due("not spoiled", y.batchOf(0, 7), 0);
        }
        due("the last stage", y.pass(11), 0);
        due("a minute more", y.pass(1), 1);
    }

    private static void staysSpoiled() {
        by(BATCHES, "it stays so.");
        BatchCellars x = Plants.fourStages();
        x.begin(0, 50, 0);
        due("it spoils in stage 0", x.pass(11), 1);
        for (int stage = 1; stage < 4; stage++) {
            due("a spoiled one moves", x.move(0, stage % 2), 0);
            due("its age begins anew", x.batchOf(0, 5), 0);
            due("still spoiled", x.batchOf(0, 7), 1);
            due("spoils no second time", x.pass(2 + 20 * (stage % 2)), 0);
            due("still spoiled", x.batchOf(0, 7), 1);
        }
        due("one batch spoiled", x.count(10), 1);
        due("ended", x.end(0), 50);
        due("off-grade, not made", x.count(31), 50);
        due("a new batch with its number", x.begin(0, 5, 0) + x.batchOf(0, 7), 0);
    }

    // ---- beginning

    private static void vesselToBeginIn() {
        by(BATCHES, "To begin a batch of a recipe with a mass in a vessel: the vessel must have no"
                + " batch, be of the kind of stage 0, and have at least this size.");
        BatchCellars x = new BatchCellars();
        x.recipe(0);
        x.stage(0, 1, 1, 0, 9);
        x.stage(0, 2, 1, 0, 9);
        for (int kind = 0; kind < 3; kind++) {
            x.vessel(kind, 100);
        }
        due("of another kind", x.begin(0, 1, 0), NOT);
        due("of the kind of stage 1", x.begin(0, 1, 2), NOT);
        due("too small by one", x.begin(0, 101, 1), NOT);
        due("too small by far", x.begin(0, 999, 1), NOT);
        due("of this size", x.begin(0, 100, 1), 0);
        due("it has a batch", x.begin(0, 1, 1), NOT);
        x.discard(0);
        due("it has none", x.begin(0, 99, 1), 0);
    }

    private static void cleanedAtOnce() {
        by(BATCHES, "It is cleaned at once: the work begins that many minutes later.");
        for (int minutes = 0; minutes <= 99; minutes++) {
            BatchCellars x = Plants.fourProducts(1);
            x.cleaning(2, 1, minutes);
            x.begin(2, 1, 0);
            x.discard(0);
            x.pass(100);
            x.begin(1, 1, 0);
            due("cleaned at once", x.vesselOf(0, 4), minutes);
            due("the work begins", x.batchOf(0, 4), 100 + minutes);
            due("not ripe ahead of the work", minutes > 0 ? x.pass(minutes) + x.end(0) : NOT, NOT);
            x.pass(1);
            due("ripe", x.batchOf(0, 6), 1);
        }
    }

    // ---- moving

    private static void vesselToMoveTo() {
        by(BATCHES, "To move a batch to another vessel, which has no batch, is of the kind of its"
                + " next stage and has at least its mass:");
        BatchCellars x = Plants.inStage(0);
        x.pass(1);
        due("its own vessel, of the kind of the next stage", x.move(0, 0), NOT);
        x.begin(0, 1, 1);
        due("a vessel with a batch", x.move(0, 1), NOT);
        x.discard(1);
        due("without one", x.move(0, 1), 0);
        for (int next = 0; next < 3; next++) {
            for (int kind = 0; kind < 3; kind++) {
                BatchCellars y = new BatchCellars();
                y.recipe(0);
                y.stage(0, 0, 1, 0, 9);
                y.stage(0, next, 1, 0, 9);
                y.stage(0, (next + 1) % 3, 1, 0, 9);
                y.vessel(0, 9);
                y.vessel(kind, 9);
                y.line(3, 9);
                y.begin(0, 9, 0);
                y.pass(1);
                due("from 0 to " + next + " in " + kind, y.move(0, 1), kind == next ? 0 : NOT);
            }
        }
        for (int size = 880; size <= 999; size++) {
            BatchCellars z = Plants.pair(99);
            z.vessel(1, size);
            z.line(5, 99);
            z.set(0, 100);
            z.begin(0, 990, 0);
            z.pass(1);
            due("990 into " + size, z.move(0, 2), size >= 990 ? 1 : NOT);
        }
    }

    private static void mustBeRipe() {
        by(BATCHES, "it must be ripe,");
        BatchCellars x = new BatchCellars();
        x.recipe(0);
        x.stage(0, 0, 10, 5, 20);
        x.stage(0, 1, 1, 0, 0);
        x.vessel(0, 9);
        x.vessel(1, 9);
        x.line(3, 9);
        x.begin(0, 9, 0);
        for (int minute = 0; minute < 15; minute++) {
            due("not ripe at " + minute, x.move(0, 1), NOT);
            x.pass(1);
        }
        due("ripe", x.move(0, 1), 0);
    }

    /** Batches in the vessels 0 to 2, ripe at minute 1; vessels 3 to 5 for their next stage. */
    private static BatchCellars threeAndThree() {
        BatchCellars x = new BatchCellars();
        x.recipe(0);
        x.stage(0, 0, 1, 0, 500);
        x.stage(0, 1, 1, 0, 500);
        for (int i = 0; i < 6; i++) {
            x.vessel(i / 3, 99);
        }
        for (int i = 0; i < 3; i++) {
            x.begin(0, 99, i);
        }
        x.pass(1);
        return x;
    }

    private static void lowestFreeLine() {
        by(BATCHES, "and there must be a line that joins both vessels and is not busy, the lowest"
                + " such one is taken.");
        for (int first = 0; first < 64; first++) {
            if (Integer.bitCount(first) < 2) {
                continue;
            }
            BatchCellars x = threeAndThree();
            x.line(first, 1);
            boolean joins = (first & 1) == 1 && (first >> 4 & 1) == 1;
            due("by a line of " + first, x.move(0, 4), joins ? 0 : NOT);
        }
        BatchCellars y = threeAndThree();
        y.line(63, 1);
        y.line(63, 99);
        y.line(63, 50);
        due("the lowest of three, though slow", y.move(2, 3), 0);
        due("the lowest one that is not busy", y.move(1, 4), 1);
        due("the last one", y.move(0, 5), 2);
        BatchCellars z = threeAndThree();
        z.line(63, 1);
        z.line(8 | 16 | 32, 99);
        z.line(1 | 2 | 4, 99);
        due("line 0", z.move(0, 3), 0);
        due("the others join one of both", z.move(1, 4), NOT);
        z.pass(98);
        due("in its last busy minute", z.move(1, 4), NOT);
        z.pass(1);
        due("not busy", z.move(1, 4), 0);
        due("without a line", threeAndThree().move(0, 3), NOT);
    }

    private static void minutesThroughTheLine() {
        by(BATCHES, "The vessel is cleaned, then the batch goes through the line in as many minutes"
                + " as its mass divided by the speed, rounded up;");
        for (int speed : new int[] {1, 2, 9, 10, 50, 98, 99}) {
            for (int mass = 1; mass <= 999; mass++) {
                BatchCellars x = Plants.ripePair(speed, mass);
                x.set(0, 100);
                x.move(0, 1);
                int minutes = mass / speed + (mass % speed > 0 ? 1 : 0);
                due(mass + " at " + speed, x.lineOf(0, 2), minutes);
                due("cleaned", x.vesselOf(1, 4), 0);
            }
        }
        for (int cleaning = 0; cleaning <= 99; cleaning++) {
            BatchCellars x = cleanedAhead(cleaning);
            x.move(0, 1);
            due("cleaned", x.vesselOf(1, 4), cleaning);
            due("cleaning, then 4 minutes", x.batchOf(0, 4), 1 + cleaning + 4);
        }
    }

    /** As ripePair(25, 99), but product 3 was in vessel 1. */
    private static BatchCellars cleanedAhead(int cleaning) {
        BatchCellars x = Plants.pair(25);
        x.recipe(3);
        x.stage(1, 1, 1, 0, 500);
        x.cleaning(3, 0, cleaning);
        x.begin(1, 1, 1);
        x.discard(0);
        x.begin(0, 99, 0);
        x.pass(1);
        return x;
    }

    private static void lineIsBusy() {
        by(BATCHES, "the line is busy for all these minutes (from now on, cleaning included),");
        for (int cleaning : new int[] {0, 1, 99}) {
            BatchCellars x = cleanedAhead(cleaning);
            x.line(3, 99);
            x.move(0, 1);
            for (int left = cleaning + 4; left > 0; left--) {
                due("busy for", x.lineOf(0, 2), left);
                due("the other line is not", x.lineOf(1, 2), 0);
                x.pass(1);
            }
            due("busy no more", x.lineOf(0, 2), 0);
            x.pass(999);
            due("not below 0", x.lineOf(0, 2), 0);
        }
    }

    private static void nextWorkBegins() {
        by(BATCHES, "and the work of the next stage begins behind them.");
        for (int cleaning : new int[] {0, 1, 99}) {
            BatchCellars x = cleanedAhead(cleaning);
            x.move(0, 1);
            due("the work begins", x.batchOf(0, 4), 1 + cleaning + 4);
            x.pass(cleaning + 4);
            due("at work", x.end(0), NOT);
            x.pass(1);
            due("ripe a minute later", x.end(0), 99);
        }
    }

    private static void oldVesselIsFree() {
        by(BATCHES, "The old vessel is free at once.");
        BatchCellars x = Plants.ripePair(1, 999);
        x.move(0, 1);
        due("no batch in it", x.vesselOf(0, 2), NONE);
        due("its product stays", x.vesselOf(0, 3), 0);
        due("a new batch in the same minute", x.begin(0, 999, 0), 1);
        due("not cleaned for the same product", x.batchOf(1, 4), 1);
        BatchCellars y = Plants.inStage(2);
        y.pass(1);
        due("back to the vessel that it left", y.move(0, 1), 0);
    }

    private static void massIsLost() {
        by(BATCHES, "Of the mass, setting 0 thousandths are lost.");
        for (int loss = 0; loss <= 100; loss++) {
            BatchCellars x = Plants.ripePair(99, 987);
            x.set(0, loss);
            x.move(0, 1);
            int lost = 987 * loss / 1000;
            due("lost of 987 at " + loss, x.count(7), lost);
            due("left of 987 at " + loss, x.batchOf(0, 1), 987 - lost);
        }
        BatchCellars y = Plants.inStage(0);
        y.set(0, 100);
        int[] left = {45, 41, 37};
        for (int stage = 1; stage < 4; stage++) {
            y.pass(stage == 1 ? 1 : 2);
            y.move(0, stage % 2);
            due("of what is left, in stage " + stage, y.batchOf(0, 1), left[stage - 1]);
        }
        due("lost in all", y.count(7), 13);
    }

    // ---- ending

    private static void endInTheLastStage() {
        by(BATCHES, "To end a batch, which must be ripe in the last stage of its recipe: it is gone;");
        for (int stage = 0; stage < 4; stage++) {
            BatchCellars x = Plants.inStage(stage);
            due("the stage", x.batchOf(0, 2), stage);
            due("at work in stage " + stage, x.end(0), NOT);
            x.pass(1);
            due("ripe", x.batchOf(0, 6), 1);
            due("end in stage " + stage, x.end(0), stage == 3 ? 50 : NOT);
            due("batches", x.count(3), stage == 3 ? 0 : 1);
            due("vessel", x.vesselOf(stage % 2, 2), stage == 3 ? NONE : 0);
            due("recipe", x.batchOf(0, 0), stage == 3 ? BAD : 0);
        }
        BatchCellars y = Plants.oneStage(1, 3, 9);
        y.begin(0, 5, 0);
        y.pass(3);
        due("the work is over, but not ripe", y.end(0), NOT);
        y.pass(1);
        due("ripe", y.end(0), 5);
        due("gone", y.end(0), BAD);
    }

    private static void madeOrOffGrade() {
        by(BATCHES, "its mass is made, or, if it is spoiled, it comes into the store of off-grade of"
                + " its product.");
        for (int product = 0; product < 4; product++) {
            for (int minutes = 1; minutes <= 2; minutes++) {
                BatchCellars x = Plants.fourProducts(1);
                x.begin(product, 999, 0);
                x.pass(minutes);
                x.end(0);
                due("made", x.count(6), minutes == 1 ? 999 : 0);
                due("batches made", x.count(9), minutes == 1 ? 1 : 0);
                due("lost", x.count(7), 0);
                for (int store = 0; store < 4; store++) {
                    boolean grows = minutes == 2 && store == product;
                    due("off-grade of " + store, x.count(30 + store), grows ? 999 : 0);
                }
            }
        }
        BatchCellars y = Plants.fourProducts(1);
        for (int i = 1; i <= 100; i++) {
            y.begin(2, 999, 0);
            y.pass(2);
            y.end(0);
        }
        due("a store without a limit", y.count(32), 99900);
        BatchCellars z = Plants.offGrade(50);
        z.begin(0, 100, 1);
        z.blend(0, 10);
        z.pass(1);
        due("made with what was blended in", z.end(0) + z.count(6), 220);
    }

    private static void thrownAway() {
        by(BATCHES, "To throw a batch away: its mass is lost (of a batch at any stage).");
        for (int stage = 0; stage < 4; stage++) {
            for (int minutes = 0; minutes <= 12; minutes++) {
                BatchCellars x = Plants.inStage(stage);
                due("minutes go by", minutes > 0 ? x.pass(minutes) : 0, minutes > 10 ? 1 : 0);
                due("discard in stage " + stage, x.discard(0), 50);
                due("lost", x.count(7), 50);
                due("gone", x.batchOf(0, 0), BAD);
                due("vessel", x.vesselOf(stage % 2, 2), NONE);
                due("neither made nor off-grade", x.count(6) + x.count(9) + x.count(31), 0);
            }
        }
        BatchCellars y = cleanedFor20(1, 0, 0);
        due("while its vessel is cleaned", y.discard(0), 1);
        BatchCellars z = Plants.ripePair(1, 999);
        z.move(0, 1);
        due("while it goes through the line", z.discard(0), 990);
        due("lost with the loss", z.count(7), 999);
        due("the line stays busy", z.lineOf(0, 2), 999);
    }

    // ---- blending

    private static void blendAtWorkOrNot() {
        by(BATCHES, "To blend: kilograms of the off-grade of its product come into a batch in its"
                + " stage 0 that is at work or not,");
        BatchCellars y = blendable();
        due("while the vessel is cleaned", y.blend(0, 1), 101);
        y.pass(20);
        due("as the work begins", y.blend(0, 1), 102);
        y.pass(4);
        due("at work", y.blend(0, 1), 103);
        y.pass(1);
        due("as the work is over", y.blend(0, 1), 104);
        y.pass(3);
        due("ageing", y.blend(0, 1), 105);
        y.pass(2);
        due("ripe", y.batchOf(0, 6), 1);
        due("when it is ripe", y.blend(0, 1), 106);
        due("off-grade left", y.count(30), 500 - 6);
        due("moved", y.move(0, 2), 0);
        int mass = y.batchOf(0, 1);
        due("in stage 1", y.blend(0, 1), NOT);
        y.pass(100);
        due("in stage 1, ripe", y.blend(0, 1), NOT);
        due("its mass", y.batchOf(0, 1), mass);
    }

    /** 500 of off-grade; batch 0 of 100, work 5, ageing 5 to 10, in a vessel cleaned for 20. */
    private static BatchCellars blendable() {
        BatchCellars x = new BatchCellars();
        x.recipe(0);
        x.stage(0, 0, 1, 0, 0);
        x.recipe(0);
        x.stage(1, 0, 5, 5, 10);
        x.stage(1, 1, 5, 0, 500);
        x.recipe(1);
        x.stage(2, 0, 1, 0, 0);
        x.vessel(0, 999);
        x.vessel(0, 130);
        x.vessel(1, 999);
        x.line(7, 99);
        x.cleaning(1, 0, 20);
        x.begin(0, 500, 0);
        x.begin(2, 1, 1);
        x.discard(1);
        x.pass(2);
        x.end(0);
        x.begin(1, 100, 1);
        return x;
    }

    private static void blendNotSpoiled() {
        by(BATCHES, "if it is not spoiled,");
        BatchCellars x = blendable();
        x.pass(35);
        due("in its last good minute", x.blend(0, 1), 101);
        x.pass(1);
        due("spoiled", x.blend(0, 1), NOT);
        due("its mass", x.batchOf(0, 1), 101);
        due("off-grade left", x.count(30), 499);
    }

    private static void blendWithRoom() {
        by(BATCHES, "its vessel has room for them,");
        for (int mass = 1; mass <= 50; mass++) {
            BatchCellars x = blendable();
            x.set(1, 50);
            due(mass + " with room for 30", x.blend(0, mass), mass <= 30 ? 100 + mass : NOT);
        }
        BatchCellars y = blendable();
        y.set(1, 50);
        due("first ones", y.blend(0, 20), 120);
        due("with them one too many", y.blend(0, 11), NOT);
        due("up to its size", y.blend(0, 10), 130);
        due("full", y.blend(0, 1), NOT);
    }

    private static void blendShare() {
        by(BATCHES, "and with them all that was blended into it is at most setting 1 hundredths of"
                + " the mass that it had at its beginning.");
        for (int share = 0; share <= 50; share++) {
            for (int first = 0; first <= 3; first++) {
                BatchCellars x = Plants.offGrade(999);
                x.begin(0, 100, 1);
                x.set(1, share);
                int ahead = first <= share && first > 0 ? first : 0;
                due("first ones", ahead > 0 ? x.blend(0, ahead) : 100, 100 + ahead);
                due("one too many", x.blend(0, share - ahead + 1), NOT);
                int rest = share - ahead;
                due("the rest", rest > 0 ? x.blend(0, rest) : 100 + share, 100 + share);
                due("no more", x.blend(0, 1), NOT);
                due("blended in", x.batchOf(0, 8), share);
            }
        }
        BatchCellars y = Plants.offGrade(999);
        y.begin(0, 10, 1);
        y.set(1, 50);
        due("half of 10", y.blend(0, 5), 15);
        due("not half of 15", y.blend(0, 1), NOT);
        y.set(1, 0);
        due("a smaller setting takes nothing out", y.batchOf(0, 1), 15);
        y.discard(0);
        y.set(1, 50);
        y.begin(0, 10, 1);
        due("a new batch has none", y.batchOf(0, 8), 0);
        due("a new batch", y.blend(0, 5), 15);
    }
}
