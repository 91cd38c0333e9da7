/** Promises 15 to 22, clause by clause. */
final class TellingEdges extends Edges {
    static void all() {
        batchOf();
        batchOfInTime();
        vesselOf();
        vesselOfNothing();
        lineOf();
        lineOfInTime();
        count();
        countInTime();
        countOfSpoiled();
        targets();
        quickest();
        quickestOfSeveral();
        soonest();
        soonestAlone();
        soonestVessels();
        urgent();
        urgentOrder();
    }

    /** Batches of 1 in all vessels of as many. */
    private static BatchCellars begun(int number) {
        BatchCellars x = Plants.fourProducts(number);
        for (int i = 0; i < number; i++) {
            x.begin(0, 1, i);
        }
        return x;
    }

    // ---- what there is

    private static void batchOf() {
        by("Promise 15", "Returns something of a batch.");
        due("batchOf(4, 3)", begun(5).batchOf(4, 3), 4);
        by("Promise 15", "batch: number of the batch");
        for (int there = 0; there <= 6; there++) {
            int number = there;
            range("batchOf(?, 0) of " + there, 0, there - 1, b -> begun(number).batchOf(b, 0));
        }
        by("Promise 15", "what: 0: its recipe; 1: its mass; 2: its stage; 3: its vessel; 4: the time"
                + " at which the work of the stage begins; 5: its age; 6: 1 if it is ripe, otherwise"
                + " 0; 7: 1 if it is spoiled, otherwise 0; 8: what was blended into it; 9: the first"
                + " time at which it is ripe in this stage; 10: the last time at which it is not"
                + " spoiled by this stage");
        range("batchOf(0, ?)", 0, 10, what -> begun(1).batchOf(0, what));
        BatchCellars x = Plants.offGrade(50);
        x.stage(3, 0, 7, 20, 30);
        x.line(6, 10);
        x.begin(3, 5, 1);
        told(x, 0, new int[] {3, 5, 0, 1, 2, 0, 0, 0, 0, 3, 3});
        x.begin(0, 100, 2);
        x.blend(1, 6);
        told(x, 1, new int[] {0, 106, 0, 2, 2, 0, 0, 0, 6, 3, 3});
        x.pass(1);
        told(x, 1, new int[] {0, 106, 0, 2, 2, 0, 1, 0, 6, 3, 3});
        x.pass(1);
        told(x, 1, new int[] {0, 106, 0, 2, 2, 1, 1, 1, 6, 3, 3});
        x.discard(1);
        x.cleaning(0, 3, 11);
        x.move(0, 2);
        told(x, 0, new int[] {3, 5, 1, 2, 16, 0, 0, 1, 0, 43, 53});
        by("Promise 15", "Returns the number;");
        due("batchOf(0, 10)", x.batchOf(0, 10), 53);
        by("Promise 15", "INVALID_ARGUMENT if an argument is out of range.");
        due("no batch 1", x.batchOf(1, 0), BAD);
        due("batch -1", x.batchOf(-1, 0), BAD);
        due("what 11", x.batchOf(0, 11), BAD);
        due("what -1", x.batchOf(0, -1), BAD);
    }

    private static void told(BatchCellars x, int batch, int[] values) {
        for (int what = 0; what < values.length; what++) {
            due("batchOf(" + batch + ", " + what + ") at " + x.count(4), x.batchOf(batch, what),
                    values[what]);
        }
    }

    private static void batchOfInTime() {
        by("Promise 15", "9: the first time at which it is ripe in this stage; 10: the last time at"
                + " which it is not spoiled by this stage");
        for (int least = 0; least <= 3; least++) {
            for (int most = least; most <= 4; most++) {
                BatchCellars x = Plants.oneStage(2, least, most);
                x.pass(5);
                x.begin(0, 1, 0);
                due("first ripe", x.batchOf(0, 9), 7 + least);
                due("last good", x.batchOf(0, 10), 7 + most);
                x.pass(1 + least);
                due("a minute ahead", x.batchOf(0, 6), 0);
                x.pass(1);
                due("ripe", x.batchOf(0, 6), 1);
                due("minutes to the last good one", most > least ? x.pass(most - least) : 0, 0);
                due("not spoiled", x.batchOf(0, 7), 0);
                x.pass(1);
                due("spoiled", x.batchOf(0, 7), 1);
                due("still first ripe", x.batchOf(0, 9), 7 + least);
                due("still last good", x.batchOf(0, 10), 7 + most);
            }
        }
    }

    private static void vesselOf() {
        by("Promise 16", "Returns something of a vessel.");
        due("vesselOf(5, 2)", begun(6).vesselOf(5, 2), 5);
        by("Promise 16", "vessel: number of the vessel");
        for (int there = 0; there <= 6; there++) {
            int number = there;
            range("vesselOf(?, 0) of " + there, 0, there - 1, v -> begun(number).vesselOf(v, 0));
        }
        by("Promise 16", "what: 0: its kind; 1: its size; 2: the batch in it; 3: the product that was"
                + " in it last (also that of the batch in it); 4: the minutes for which it was cleaned"
                + " so far (all of a cleaning counts at once)");
        range("vesselOf(0, ?)", 0, 4, what -> begun(1).vesselOf(0, what));
        BatchCellars x = Plants.fourProducts(1);
        x.vessel(2, 888);
        due("its kind", x.vesselOf(1, 0), 2);
        due("its size", x.vesselOf(1, 1), 888);
        int minutes = 0;
        for (int i = 0; i < 60; i++) {
            x.cleaning(i % 4, (i + 1) % 4, 40 + i);
            x.begin(i % 4, 1, 0);
            due("the batch", x.vesselOf(0, 2), 0);
            due("the product of the batch", x.vesselOf(0, 3), i % 4);
            due("cleaned so far", x.vesselOf(0, 4), minutes);
            x.discard(0);
            due("the product that was in it", x.vesselOf(0, 3), i % 4);
            minutes += 40 + i;
        }
        due("not cleaned when it is left", x.vesselOf(0, 4), minutes - 99);
        by("Promise 16", "Returns the number;");
        due("vesselOf(0, 1)", x.vesselOf(0, 1), 999);
        by("Promise 16", "INVALID_ARGUMENT if an argument is out of range;");
        due("vessel 2", x.vesselOf(2, 2), BAD);
        due("vessel -1", x.vesselOf(-1, 2), BAD);
        due("what 5", x.vesselOf(1, 5), BAD);
        due("what -1", x.vesselOf(1, -1), BAD);
    }

    private static void vesselOfNothing() {
        by("Promise 16", "NOT_FOUND for 2 and 3 if there is none.");
        BatchCellars x = Plants.fourProducts(1);
        due("no batch", x.vesselOf(0, 2), NONE);
        due("no product", x.vesselOf(0, 3), NONE);
        due("0 minutes are a number", x.vesselOf(0, 4), 0);
        due("kind 0 is a number", x.vesselOf(0, 0), 0);
        x.begin(0, 1, 0);
        due("batch 0 is a number", x.vesselOf(0, 2), 0);
        due("product 0 is a number", x.vesselOf(0, 3), 0);
        x.pass(1);
        x.end(0);
        due("no batch any more", x.vesselOf(0, 2), NONE);
        due("the product stays", x.vesselOf(0, 3), 0);
        BatchCellars y = Plants.ripePair(9, 9);
        y.move(0, 1);
        due("no batch any more", y.vesselOf(0, 2), NONE);
        due("the batch", y.vesselOf(1, 2), 0);
    }

    /** As many lines of speed 9 that join two vessels. */
    private static BatchCellars lines(int number) {
        BatchCellars x = Plants.fourProducts(2);
        for (int i = 0; i < number; i++) {
            x.line(3, 9);
        }
        return x;
    }

    private static void lineOf() {
        by("Promise 17", "Returns something of a line.");
        due("lineOf(2, 1)", lines(3).lineOf(2, 1), 9);
        by("Promise 17", "line: number of the line");
        for (int there = 0; there <= 3; there++) {
            int number = there;
            range("lineOf(?, 0) of " + there, 0, there - 1, line -> lines(number).lineOf(line, 0));
        }
        by("Promise 17", "Returns the number;");
        due("lineOf(0, 0)", lines(1).lineOf(0, 0), 3);
        by("Promise 17", "INVALID_ARGUMENT if an argument is out of range.");
        due("line 1", lines(1).lineOf(1, 0), BAD);
        due("line -1", lines(1).lineOf(-1, 0), BAD);
        due("what 4", lines(1).lineOf(0, 4), BAD);
        due("what -1", lines(1).lineOf(0, -1), BAD);
    }

    private static void lineOfInTime() {
        by("Promise 17", "what: 0: the vessels that it joins; 1: its speed; 2: the minutes for which"
                + " it is busy from now on; 3: kilograms that went into it so far (all of a transfer"
                + " counts at once)");
        range("lineOf(0, ?)", 0, 3, what -> lines(1).lineOf(0, what));
        BatchCellars x = Plants.ripePair(7, 700);
        x.line(3, 8);
        x.set(0, 100);
        due("vessels", x.lineOf(0, 0), 3);
        due("speed", x.lineOf(0, 1), 7);
        due("not busy", x.lineOf(0, 2), 0);
        due("nothing went into it", x.lineOf(0, 3), 0);
        x.move(0, 1);
        due("all of it at once, with the loss", x.lineOf(0, 3), 700);
        for (int left = 100; left > 0; left--) {
            due("busy from now on", x.lineOf(0, 2), left);
            x.pass(1);
        }
        due("busy no more", x.lineOf(0, 2), 0);
        x.pass(900);
        due("long ago", x.lineOf(0, 2), 0);
        x.discard(0);
        x.begin(0, 33, 0);
        x.pass(1);
        x.move(0, 1);
        due("in all", x.lineOf(0, 3), 733);
        due("nothing went into the other line", x.lineOf(1, 3), 0);
        due("it is not busy", x.lineOf(1, 2), 0);
    }

    private static void count() {
        by("Promise 18", "Returns a number.");
        due("count(1)", begun(6).count(1), 6);
        by("Promise 18", "what: 0: recipes; 1: vessels; 2: lines; 3: batches; 4: the time;");
        for (int i = 0; i < 6; i++) {
            BatchCellars x = new BatchCellars();
            for (int k = 0; k < i; k++) {
                x.recipe(0);
                x.stage(0, 0, 1, 0, 500);
                x.vessel(0, 9);
                x.line((2 << k) - 1, 1);
                x.begin(0, 1, k);
                x.pass(100);
            }
            due("recipes", x.count(0), Math.min(4, i));
            due("vessels", x.count(1), i);
            due("lines", x.count(2), Math.min(3, Math.max(0, i - 1)));
            due("batches", x.count(3), i);
            due("the time", x.count(4), 100 * i);
        }
        by("Promise 18", "Returns the number;");
        due("count(4)", Plants.atMinute(new BatchCellars(), 30000).count(4), 30000);
        by("Promise 18", "INVALID_ARGUMENT if what is out of range.");
        range("count(?)", 0, 33, what -> isBetween(what) ? 0 : begun(6).count(what));
        for (int what = 13; what < 30; what++) {
            boolean refused = begun(6).count(what) == BAD;
            due("count(" + what + ") is refused", refused ? 1 : 0, isBetween(what) ? 1 : 0);
        }
    }

    private static boolean isBetween(int what) {
        return what >= 13 && what <= 19 || what >= 22 && what <= 29;
    }

    private static void countInTime() {
        by("Promise 18", "5: mass begun so far; 6: mass made so far; 7: mass lost so far (by"
                + " transfers, and thrown away); 8: mass of all batches now; 9: batches made so far"
                + " (not those that were spoiled);");
        BatchCellars x = Plants.pair(99);
        x.set(0, 100);
        int made = 0;
        int lost = 0;
        for (int i = 1; i <= 30; i++) {
            due("begin", x.begin(0, 30 * i, 0), 0);
            x.pass(1);
            due("mass now", x.count(8), 30 * i);
            x.move(0, 1);
            lost += 3 * i;
            due("lost by the transfer", x.count(7), lost);
            due("mass now", x.count(8), 27 * i);
            x.pass(20);
            if (i % 3 > 0) {
                x.end(0);
                made += 27 * i;
            } else {
                x.discard(0);
                lost += 27 * i;
            }
            due("begun", x.count(5), 15 * i * (i + 1));
            due("made", x.count(6), made);
            due("lost", x.count(7), lost);
            due("no mass now", x.count(8), 0);
            due("batches made", x.count(9), i - i / 3);
        }
        BatchCellars y = Plants.offGrade(90);
        due("a spoiled one is not made", y.count(9) + y.count(6), 0);
        y.begin(0, 100, 1);
        y.begin(1, 200, 2);
        y.blend(0, 10);
        due("mass of both with what was blended in", y.count(8), 310);
        due("begun without what was blended in", y.count(5), 390);
    }

    private static void countOfSpoiled() {
        by("Promise 18", "10: batches that spoiled so far; 11: states in the history; 12: the length"
                + " of the text; 20, 21: the settings 0, 1; 30 plus a product: its off-grade now (30"
                + " to 33)");
        BatchCellars x = begun(4);
        x.pass(1);
        due("none spoiled", x.count(10), 0);
        x.pass(1);
        due("four spoiled", x.count(10), 4);
        x.end(0);
        x.discard(1);
        due("also when they are gone", x.count(10), 4);
        for (int i = 1; i <= 80; i++) {
            x.type(' ');
            due("length of the text", x.count(12), i);
        }
        BatchCellars y = Plants.fourProducts(4);
        for (int product = 0; product < 4; product++) {
            y.begin(product, 100 + product, product);
        }
        y.pass(2);
        for (int product = 0; product < 4; product++) {
            y.end(product);
            for (int other = 0; other < 4; other++) {
                due("off-grade", y.count(30 + other), other <= product ? 100 + other : 0);
            }
        }
        y.begin(2, 100, 0);
        y.blend(0, 10);
        due("off-grade now", y.count(32), 92);
        y.set(0, 1);
        y.set(1, 2);
        due("setting 0", y.count(20), 1);
        due("setting 1", y.count(21), 2);
        BatchCellars z = new BatchCellars();
        for (int i = 1; i <= 6; i++) {
            z.pass(1);
            due("states", z.count(11), Math.min(4, i));
        }
        z.undo();
        due("states", z.count(11), 3);
    }

    // ---- what could be

    private static void targets() {
        by("Promise 19", "Tells the vessels to which a batch could be moved now.");
        for (int taken = 0; taken < 32; taken++) {
            BatchCellars x = new BatchCellars();
            x.recipe(0);
            x.stage(0, 0, 1, 0, 500);
            x.stage(0, 0, 1, 0, 500);
            for (int i = 0; i < 6; i++) {
                x.vessel(0, 9);
            }
            x.line(63, 9);
            x.begin(0, 9, 5);
            for (int i = 0; i < 5; i++) {
                due("taken", (taken >> i & 1) == 1 ? Math.min(0, x.begin(0, 9, i)) : 0, 0);
            }
            due("not ripe", x.targets(0), 0);
            x.pass(1);
            due("with " + taken + " taken", x.targets(0), 31 & ~taken);
        }
        BatchCellars y = Plants.ripePair(9, 9);
        due("ripe", y.targets(0), 2);
        y.move(0, 1);
        y.pass(50);
        due("in its last stage", y.targets(0), 0);
        by("Promise 19", "batch: number of the batch");
        for (int there = 0; there <= 6; there++) {
            int number = there;
            range("targets(?) of " + there, 0, there - 1, batch -> begun(number).targets(batch));
        }
        by("Promise 19", "Returns the set;");
        BatchCellars z = Plants.ripePair(9, 9);
        z.vessel(1, 9);
        z.vessel(1, 8);
        z.vessel(0, 9);
        z.vessel(1, 9);
        due("not joined", z.targets(0), 2);
        z.line(61, 9);
        due("two of the others", z.targets(0), 2 | 4 | 32);
        by("Promise 19", "INVALID_ARGUMENT.");
        due("batch 1", z.targets(1), BAD);
        due("batch -1", z.targets(-1), BAD);
        due("batch 6", z.targets(6), BAD);
        due("no batch at all", new BatchCellars().targets(0), BAD);
    }

    private static void quickest() {
        by("Promise 20", "batch: number of the batch");
        for (int there = 0; there <= 6; there++) {
            int number = there;
            range("quickest(?, 0) of " + there, 0, there - 1, b -> begun(number).quickest(b, 0));
        }
        by("Promise 20", "what: 0: the vessel, of several the lowest; 1: the minutes");
        range("quickest(0, ?)", 0, 1, what -> Plants.ripePair(9, 9).quickest(0, what));
        BatchCellars x = Plants.ripePair(9, 19);
        due("the vessel", x.quickest(0, 0), 1);
        due("the minutes", x.quickest(0, 1), 3);
        by("Promise 20", "Returns the number;");
        due("quickest(0, 1)", Plants.ripePair(1, 999).quickest(0, 1), 999);
        due("quickest(0, 1)", Plants.ripePair(99, 1).quickest(0, 1), 1);
        by("Promise 20", "INVALID_ARGUMENT if an argument is out of range;");
        due("batch 1", x.quickest(1, 0), BAD);
        due("batch -1", x.quickest(-1, 0), BAD);
        due("what 2", x.quickest(0, 2), BAD);
        due("what -1", x.quickest(0, -1), BAD);
        due("what 2, nowhere to go", begun(1).quickest(0, 2), BAD);
        by("Promise 20", "NOT_FOUND if it could be moved nowhere now.");
        due("no next stage", begun(1).quickest(0, 0), NONE);
        due("no next stage", begun(1).quickest(0, 1), NONE);
        BatchCellars y = Plants.pair(9);
        y.begin(0, 9, 0);
        due("not ripe", y.quickest(0, 0), NONE);
        due("not ripe", y.quickest(0, 1), NONE);
        y.pass(1);
        due("ripe", y.quickest(0, 0), 1);
        y.move(0, 1);
        y.begin(0, 9, 0);
        y.pass(1);
        due("the vessel has a batch", y.quickest(1, 0), NONE);
    }

    private static void quickestOfSeveral() {
        by("Promise 20", "Tells in how many minutes the work of the next stage of a batch would"
                + " begin, if it was moved now, for the vessel where this is earliest.");
        for (int last = 0; last < 64; last++) {
            int[] cleaning = {last % 4, last / 4 % 4, last / 16};
            BatchCellars x = new BatchCellars();
            for (int product = 0; product < 4; product++) {
                x.recipe(product);
                x.stage(product, 0, 1, 0, 9);
                x.cleaning(product, 3, 9 - 3 * product);
            }
            x.stage(3, 0, 1, 0, 9);
            for (int i = 0; i < 4; i++) {
                x.vessel(0, 99);
            }
            x.line(15, 10);
            int best = 9;
            for (int i = 0; i < 3; i++) {
                due("begin", x.begin(cleaning[i], 1, i) + x.discard(0), 1);
                best = Math.min(best, 9 - 3 * cleaning[i]);
            }
            x.begin(3, 99, 3);
            x.pass(1);
            int vessel = 0;
            while (9 - 3 * cleaning[vessel] > best) {
                vessel++;
            }
            due("the lowest of " + last, x.quickest(0, 0), vessel);
            due("the minutes of " + last, x.quickest(0, 1), best + 10);
            x.move(0, vessel);
            due("as the move does", x.batchOf(0, 4), 1 + best + 10);
        }
        BatchCellars y = Plants.ripePair(1, 50);
        y.line(3, 99);
        due("the lowest line, though slow", y.quickest(0, 1), 50);
        y.vessel(1, 50);
        y.line(5, 25);
        due("the other vessel by a faster line", y.quickest(0, 0), 2);
        due("in 2 minutes", y.quickest(0, 1), 2);
    }

    // ---- soonest

    private static void soonest() {
        by("Promise 21", "batch: number of the batch");
        for (int there = 0; there <= 6; there++) {
            int number = there;
            range("soonest(?) of " + there, 0, there - 1, batch -> begun(number).soonest(batch));
        }
        by("Promise 21", "Returns the time;");
        BatchCellars x = Plants.fourStages();
        x.pass(100);
        x.begin(0, 50, 0);
        due("four stages of a minute", x.soonest(0), 104);
        by("Promise 21", "INVALID_ARGUMENT;");
        due("batch 1", x.soonest(1), BAD);
        due("batch -1", x.soonest(-1), BAD);
        due("batch 6", x.soonest(6), BAD);
        due("no batch at all", new BatchCellars().soonest(0), BAD);
        by("Promise 21", "NOT_FOUND if for some stage there is no such vessel.");
        for (int without = 1; without < 4; without++) {
            BatchCellars y = new BatchCellars();
            y.recipe(0);
            for (int stage = 0; stage < 4; stage++) {
                y.stage(0, stage == without ? 1 : 0, 1, 0, 9);
            }
            y.vessel(0, 50);
            y.vessel(2, 50);
            y.begin(0, 50, 0);
            due("none for stage " + without, y.soonest(0), NONE);
            y.vessel(1, 44);
            due("too small for stage " + without, y.soonest(0), NONE);
            y.set(0, 100);
            due("less by the losses", y.soonest(0), without == 3 ? 4 : NONE);
            y.set(0, 0);
            y.vessel(1, 50);
            due("large enough", y.soonest(0), 4);
        }
        BatchCellars z = new BatchCellars();
        z.recipe(0);
        z.stage(0, 0, 1, 0, 9);
        z.vessel(0, 9);
        z.begin(0, 9, 0);
        due("no stage is left: no vessel is looked for", z.soonest(0), 1);
    }

    private static void soonestAlone() {
        by("Promise 21", "Tells when a batch could be ended at the earliest, if it was moved as soon"
                + " as it is ripe each time,");
        for (int minute = 0; minute <= 710; minute++) {
            int ripe = Math.max(700, minute);
            due("at minute " + minute, threeKinds(minute).soonest(0), ripe + 13 + 7);
        }
        BatchCellars x = threeKinds(711);
        x.move(0, 1);
        due("in stage 1", x.soonest(0), 711 + 10 + 13 + 7);
        x.pass(100);
        due("ripe in stage 1", x.soonest(0), 811 + 7);
        x.move(0, 2);
        due("in stage 2", x.soonest(0), 811 + 10 + 7);
        x.pass(16);
        due("a minute ahead", x.soonest(0), 828);
        x.pass(1);
        due("now", x.soonest(0), 828);
        x.pass(1);
        due("ripe in stage 2 since a minute", x.soonest(0), 829);
        BatchCellars late = Plants.atMinute(Plants.oneStage(200, 500, 500), 30000);
        late.begin(0, 9, 0);
        due("above 30000", late.soonest(0), 30700);
    }

    /** Three stages, the first one for 700 minutes; a batch that was begun as many minutes ago. */
    private static BatchCellars threeKinds(int minutes) {
        BatchCellars x = new BatchCellars();
        x.recipe(0);
        x.stage(0, 0, 200, 500, 500);
        x.stage(0, 1, 10, 3, 50);
        x.stage(0, 2, 7, 0, 50);
        for (int i = 0; i < 3; i++) {
            x.vessel(i, 99);
        }
        x.line(7, 3);
        x.begin(0, 30, 0);
        return Plants.atMinute(x, minutes);
    }

    private static void soonestVessels() {
        by("Promise 21", "to the lowest vessel of the kind of the next stage that has at least its"
                + " mass then (the one in which it is, too; whatever is in it and whatever lines"
                + " there are), at once and without cleaning, setting 0 thousandths being lost each"
                + " time.");
        BatchCellars x = Plants.oneStage(1, 0, 9);
        x.stage(0, 0, 1, 0, 9);
        x.begin(0, 999, 0);
        due("its own vessel, without a line", x.soonest(0), 2);
        BatchCellars y = Plants.pair(1);
        y.recipe(3);
        y.stage(1, 1, 1, 0, 9);
        y.cleaning(3, 0, 99);
        y.begin(1, 9, 1);
        y.begin(0, 999, 0);
        due("whatever is in it, not cleaned, at once", y.soonest(1), 2);
        for (int loss = 0; loss <= 100; loss++) {
            BatchCellars z = new BatchCellars();
            z.recipe(0);
            z.stage(0, 0, 1, 0, 9);
            z.stage(0, 0, 1, 0, 9);
            z.stage(0, 0, 1, 0, 9);
            z.stage(0, 1, 1, 0, 9);
            int one = 999 - 999 * loss / 1000;
            int two = one - one * loss / 1000;
            z.vessel(0, 999);
            z.vessel(1, two - 1);
            z.set(0, loss);
            z.begin(0, 999, 0);
            due("too small by one at " + loss, z.soonest(0), NONE);
            z.vessel(1, two);
            due("two losses ahead of it at " + loss, z.soonest(0), 4);
        }
    }

    // ---- urgent

    private static void urgent() {
        by("Promise 22", "place: 0 for the first one, and so on");
        range("urgent(?)", 0, Integer.MAX_VALUE, place -> begun(6).urgent(place));
        by("Promise 22", "Returns the number of the batch;");
        for (int there = 0; there <= 6; there++) {
            BatchCellars x = begun(there);
            for (int place = 0; place < there; place++) {
                due("urgent(" + place + ")", x.urgent(place), place);
            }
        }
        by("Promise 22", "INVALID_ARGUMENT if place is negative;");
        due("urgent(-1)", begun(6).urgent(-1), BAD);
        due("urgent(-1) of none", begun(0).urgent(-1), BAD);
        due("the least place", begun(6).urgent(Integer.MIN_VALUE), BAD);
        by("Promise 22", "NOT_FOUND if there are not so many.");
        for (int there = 0; there <= 6; there++) {
            BatchCellars x = begun(there);
            due("urgent(" + there + ") of as many", x.urgent(there), NONE);
            due("one more", x.urgent(there + 1), NONE);
            due("a far place", x.urgent(Integer.MAX_VALUE), NONE);
            x.pass(2);
            due("all are spoiled", x.urgent(0), NONE);
        }
    }

    private static void urgentOrder() {
        by("Promise 22", "Returns a batch by the times until which they are not spoiled by their"
                + " stages, the earliest first, of several the one with the lower number; spoiled"
                + " ones are left out.");
        for (int mixed = 0; mixed < 729; mixed++) {
            BatchCellars x = new BatchCellars();
            for (int recipe = 0; recipe < 3; recipe++) {
                x.recipe(0);
                x.stage(recipe, 0, 4 - recipe, 0, 2 * recipe);
            }
            int[] until = new int[6];
            for (int i = 0, rest = mixed; i < 6; i++, rest /= 3) {
                x.vessel(0, 9);
                x.begin(rest % 3, 1, i);
                until[i] = 4 + rest % 3;
            }
            order(x, until, 0);
            x.pass(5);
            order(x, until, 5);
            x.pass(1);
            order(x, until, 6);
            x.pass(1);
            due("all are spoiled", x.urgent(0), NONE);
        }
        BatchCellars y = Plants.fourStages();
        y.begin(0, 50, 0);
        y.pass(11);
        y.move(0, 1);
        y.begin(0, 9, 0);
        due("a spoiled one in its next stage", y.urgent(0), 1);
        due("is left out", y.urgent(1), NONE);
    }

    private static void order(BatchCellars x, int[] until, int now) {
        int place = 0;
        for (int time = now; time <= 6; time++) {
            for (int i = 0; i < 6; i++) {
                if (until[i] == time) {
                    due("urgent(" + place + ") at " + now, x.urgent(place), i);
                    place++;
                }
            }
        }
        due("urgent(" + place + ") at " + now, x.urgent(place), NONE);
    }
}
