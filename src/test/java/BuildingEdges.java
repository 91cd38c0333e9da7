/** Promises 1 to 7, clause by clause. */
final class BuildingEdges extends Edges {
    static void all() {
        newObject();
        recipe();
        stageArguments();
        stageAnswers();
        vessel();
        lineArguments();
        lineAnswers();
        cleaning();
        stageOfArguments();
        stageOfAnswers();
    }

    private static BatchCellars recipes(int number) {
        BatchCellars x = new BatchCellars();
        for (int i = 0; i < number; i++) {
            x.recipe(i);
        }
        return x;
    }

    private static BatchCellars vessels(int number) {
        BatchCellars x = new BatchCellars();
        for (int i = 0; i < number; i++) {
            x.vessel(0, 9);
        }
        return x;
    }

    private static void newObject() {
        by("Promise 1", "Creates a plant without anything, at the time 0.");
        BatchCellars used = Plants.offGrade(900);
        used.type('t');
        used.set(0, 99);
        BatchCellars x = new BatchCellars();
        for (int what = 0; what <= 12; what++) {
            due("count(" + what + ")", x.count(what), 0);
        }
        for (int i = 0; i < 4; i++) {
            due("off-grade of " + i, x.count(30 + i), 0);
        }
        for (int i = 0; i < 6; i++) {
            due("stageOf(" + i + ", 0, 0)", x.stageOf(i, 0, 0), BAD);
            due("vesselOf(" + i + ", 0)", x.vesselOf(i, 0), BAD);
            due("lineOf(" + i + ", 0)", x.lineOf(i, 0), BAD);
            due("batchOf(" + i + ", 0)", x.batchOf(i, 0), BAD);
        }
        due("urgent(0)", x.urgent(0), NONE);
        due("undo()", x.undo(), NOT);
        due("fault(0)", x.fault(0), NONE);
        due("clearText()", x.clearText(), 0);
    }

    private static void recipe() {
        by("Promise 2", "Adds a recipe without stages.");
        BatchCellars x = new BatchCellars();
        x.vessel(0, 9);
        x.recipe(1);
        x.stage(0, 0, 1, 0, 0);
        x.recipe(2);
        due("stageOf(1, 0, 4)", x.stageOf(1, 0, 4), NONE);
        due("begin(1, 1, 0)", x.begin(1, 1, 0), NOT);
        due("its first stage", x.stage(1, 0, 1, 0, 0), 0);
        by("Promise 2", "product: 0 to 3");
        range("recipe(?)", 0, 3, product -> new BatchCellars().recipe(product));
        by("Promise 2", "Returns its number;");
        BatchCellars y = new BatchCellars();
        for (int i = 0; i < 4; i++) {
            due("recipe(3)", y.recipe(3), i);
        }
        by("Promise 2", "INVALID_ARGUMENT if product is out of range;");
        range("recipe(?) of three", 0, 3, product -> recipes(3).recipe(product));
        due("out of range, and there are 4", recipes(4).recipe(4), BAD);
        due("out of range, and there are 4", recipes(4).recipe(-1), BAD);
        by("Promise 2", "LIMIT_REACHED if there are 4.");
        for (int product = 0; product < 4; product++) {
            due("there are 3", recipes(3).recipe(product), 3);
            due("there are 4", recipes(4).recipe(product), FULL);
        }
    }

    private static void stageArguments() {
        by("Promise 3", "Adds a stage to a recipe, as its last one.");
        BatchCellars x = recipes(2);
        for (int i = 0; i < 4; i++) {
            x.stage(1, i % 3, 10 + i, 20 + i, 30 + i);
        }
        for (int i = 0; i < 4; i++) {
            due("kind of stage " + i, x.stageOf(1, i, 0), i % 3);
            due("work of stage " + i, x.stageOf(1, i, 1), 10 + i);
            due("least of stage " + i, x.stageOf(1, i, 2), 20 + i);
            due("most of stage " + i, x.stageOf(1, i, 3), 30 + i);
        }
        due("the other recipe", x.stageOf(0, 0, 0), NONE);
        by("Promise 3", "recipe: number of the recipe");
        for (int there = 0; there <= 4; there++) {
            int number = there;
            range("stage(?, 0, 1, 0, 0) of " + there, 0, there - 1,
                    recipe -> recipes(number).stage(recipe, 0, 1, 0, 0));
        }
        by("Promise 3", "kind: 0 to 2");
        range("stage(0, ?, 1, 0, 0)", 0, 2, kind -> recipes(1).stage(0, kind, 1, 0, 0));
        by("Promise 3", "work: 1 to 200");
        range("stage(0, 0, ?, 0, 0)", 1, 200, work -> recipes(1).stage(0, 0, work, 0, 0));
        by("Promise 3", "least: 0 to 500");
        range("stage(0, 0, 1, ?, 500)", 0, 500, least -> recipes(1).stage(0, 0, 1, least, 500));
        range("stage(0, 0, 1, ?, ?)", 0, 500, least -> recipes(1).stage(0, 0, 1, least, least));
        by("Promise 3", "most: least to 500");
        for (int least : new int[] {0, 1, 2, 250, 499, 500}) {
            range("stage(0, 0, 1, " + least + ", ?)", least, 500,
                    most -> recipes(1).stage(0, 0, 1, least, most));
        }
    }

    private static void stageAnswers() {
        by("Promise 3", "Returns its number;");
        BatchCellars x = recipes(2);
        for (int i = 0; i < 4; i++) {
            due("of recipe 1", x.stage(1, 0, 1, 0, 0), i);
            due("of recipe 0", x.stage(0, 0, 1, 0, 0), i);
        }
        by("Promise 3", "INVALID_ARGUMENT if an argument is out of range;");
        BatchCellars full = Plants.inStage(0);
        due("recipe 1 is not there", full.stage(1, 0, 1, 0, 0), BAD);
        due("kind 3, with a batch and 4 stages", full.stage(0, 3, 1, 0, 0), BAD);
        due("work 0, with a batch and 4 stages", full.stage(0, 0, 0, 0, 0), BAD);
        due("least -1, with a batch and 4 stages", full.stage(0, 0, 1, -1, 0), BAD);
        due("most below least, with a batch and 4 stages", full.stage(0, 0, 1, 1, 0), BAD);
        due("most 501, with a batch and 4 stages", full.stage(0, 0, 1, 0, 501), BAD);
        by("Promise 3", "NOT_POSSIBLE if there is a batch of this recipe;");
        BatchCellars y = Plants.fourProducts(6);
        for (int i = 0; i < 6; i++) {
            y.begin(i == 5 ? 3 : 1, 1, i);
        }
        due("a batch of it, the last one", y.stage(3, 0, 1, 0, 0), NOT);
        due("batches of it", y.stage(1, 0, 1, 0, 0), NOT);
        due("no batch of it", y.stage(0, 0, 1, 0, 0), 1);
        y.discard(5);
        due("no batch of it any more", y.stage(3, 0, 1, 0, 0), 1);
        y.pass(1);
        y.end(0);
        due("still four batches of it", y.stage(1, 0, 1, 0, 0), NOT);
        due("in a later stage", Plants.inStage(2).stage(0, 0, 1, 0, 0), NOT);
        by("Promise 3", "LIMIT_REACHED if it has 4 stages.");
        BatchCellars z = Plants.inStage(3);
        due("with a batch", z.stage(0, 0, 1, 0, 0), NOT);
        z.discard(0);
        due("without one", z.stage(0, 0, 1, 0, 0), FULL);
        due("its last stage is as it was", z.stageOf(0, 3, 3), 9);
    }

    private static void vessel() {
        by("Promise 4", "Adds a vessel.");
        BatchCellars x = vessels(2);
        x.vessel(2, 77);
        due("count(1)", x.count(1), 3);
        due("its kind", x.vesselOf(2, 0), 2);
        due("its size", x.vesselOf(2, 1), 77);
        due("no batch", x.vesselOf(2, 2), NONE);
        due("no product", x.vesselOf(2, 3), NONE);
        due("not cleaned", x.vesselOf(2, 4), 0);
        by("Promise 4", "kind: 0 to 2");
        range("vessel(?, 999)", 0, 2, kind -> new BatchCellars().vessel(kind, 999));
        by("Promise 4", "size: 1 to 999");
        range("vessel(2, ?)", 1, 999, size -> new BatchCellars().vessel(2, size));
        by("Promise 4", "Returns its number;");
        BatchCellars y = new BatchCellars();
        for (int i = 0; i < 6; i++) {
            due("vessel(1, 5)", y.vessel(1, 5), i);
        }
        by("Promise 4", "INVALID_ARGUMENT if an argument is out of range;");
        due("kind 3 of six", vessels(6).vessel(3, 1), BAD);
        due("kind -1 of six", vessels(6).vessel(-1, 1), BAD);
        due("size 0 of six", vessels(6).vessel(0, 0), BAD);
        due("size 1000 of six", vessels(6).vessel(0, 1000), BAD);
        by("Promise 4", "LIMIT_REACHED if there are 6.");
        due("there are 5", vessels(5).vessel(0, 1), 5);
        due("there are 6", vessels(6).vessel(0, 1), FULL);
        due("there are 6", vessels(6).vessel(2, 999), FULL);
    }

    private static void lineArguments() {
        by("Promise 5", "Adds a line.");
        BatchCellars x = vessels(4);
        x.line(9, 44);
        due("count(2)", x.count(2), 1);
        due("its vessels", x.lineOf(0, 0), 9);
        due("its speed", x.lineOf(0, 1), 44);
        due("not busy", x.lineOf(0, 2), 0);
        due("nothing went into it", x.lineOf(0, 3), 0);
        by("Promise 5", "vessels: the set of vessels that it joins, two or more");
        for (int set = 0; set < 64; set++) {
            due("line(" + set + ", 1)", vessels(6).line(set, 1), Integer.bitCount(set) > 1 ? 0 : BAD);
        }
        by("Promise 5", "speed: 1 to 99");
        range("line(3, ?)", 1, 99, speed -> vessels(2).line(3, speed));
    }

    private static void lineAnswers() {
        by("Promise 5", "Returns its number;");
        BatchCellars x = vessels(3);
        due("line(7, 1)", x.line(7, 1), 0);
        due("line(5, 1)", x.line(5, 1), 1);
        due("line(7, 1)", x.line(7, 1), 2);
        by("Promise 5", "INVALID_ARGUMENT if an argument is out of range, or the set has a bit for no"
                + " vessel, or fewer than two;");
        for (int there = 0; there <= 6; there++) {
            for (int set = 0; set < 130; set++) {
                boolean strange = set >= 1 << there;
                boolean ok = !strange && Integer.bitCount(set) > 1;
                due("line(" + set + ", 1) of " + there, vessels(there).line(set, 1), ok ? 0 : BAD);
            }
            for (int bit = there; bit < 32; bit++) {
                int set = 1 << bit | (1 << there) - 1;
                due("line(" + set + ", 1) of " + there, vessels(there).line(set, 1), BAD);
            }
        }
        due("line(-1, 1)", vessels(6).line(-1, 1), BAD);
        due("line(-4, 1)", vessels(2).line(-4, 1), BAD);
        BatchCellars full = vessels(3);
        for (int i = 0; i < 3; i++) {
            full.line(7, 1);
        }
        due("fewer than two, and there are 3", full.line(4, 1), BAD);
        due("a bit for no vessel, and there are 3", full.line(11, 1), BAD);
        due("speed 0, and there are 3", full.line(7, 0), BAD);
        due("speed 100, and there are 3", full.line(7, 100), BAD);
        by("Promise 5", "LIMIT_REACHED if there are 3.");
        due("there are 3", full.line(7, 1), FULL);
        due("there are 3", full.line(3, 99), FULL);
        due("there are 3", full.count(2), 3);
    }

    private static void cleaning() {
        by("Promise 6", "Sets minutes of the table of cleaning.");
        BatchCellars x = Plants.fourProducts(1);
        x.cleaning(1, 2, 17);
        x.begin(1, 1, 0);
        x.discard(0);
        x.begin(2, 1, 0);
        due("cleaned for", x.vesselOf(0, 4), 17);
        x.discard(0);
        x.begin(1, 1, 0);
        due("the other way as before", x.vesselOf(0, 4), 17 + 5);
        x.cleaning(1, 2, 90);
        due("what was cleaned stays", x.vesselOf(0, 4), 22);
        by("Promise 6", "from: 0 to 3: the product that was in the vessel last");
        range("cleaning(?, 1, 9)", 0, 3, from -> new BatchCellars().cleaning(from, 1, 9));
        by("Promise 6", "to: 0 to 3: the product for which it is cleaned");
        range("cleaning(1, ?, 9)", 0, 3, to -> new BatchCellars().cleaning(1, to, 9));
        by("Promise 6", "minutes: 0 to 99");
        range("cleaning(1, 2, ?)", 0, 99, minutes -> new BatchCellars().cleaning(1, 2, minutes));
        by("Promise 6", "Returns what they were;");
        BatchCellars y = new BatchCellars();
        for (int i = 0; i < 16; i++) {
            due("at first", y.cleaning(i / 4, i % 4, 80 + i), i / 4 == i % 4 ? 0 : 5);
        }
        for (int i = 0; i < 16; i++) {
            due("then", y.cleaning(i / 4, i % 4, 0), 80 + i);
            due("0", y.cleaning(i / 4, i % 4, 99), 0);
        }
        due("99", y.cleaning(3, 0, 0), 99);
        by("Promise 6", "INVALID_ARGUMENT if an argument is out of range.");
        due("cleaning(4, 0, 1)", y.cleaning(4, 0, 1), BAD);
        due("cleaning(0, 4, 1)", y.cleaning(0, 4, 1), BAD);
        due("cleaning(-1, 4, 1)", y.cleaning(-1, 4, 1), BAD);
        due("cleaning(1, -1, 1)", y.cleaning(1, -1, 1), BAD);
        due("cleaning(1, 1, 100)", y.cleaning(1, 1, 100), BAD);
        due("cleaning(1, 1, -1)", y.cleaning(1, 1, -1), BAD);
        due("what it was", y.cleaning(1, 1, 5), 99);
    }

    private static BatchCellars recipeOfTwo() {
        BatchCellars x = new BatchCellars();
        x.recipe(2);
        x.recipe(3);
        x.stage(1, 2, 200, 499, 500);
        x.stage(1, 1, 1, 0, 4);
        return x;
    }

    private static void stageOfArguments() {
        by("Promise 7", "Returns something of a stage.");
        due("stageOf(1, 1, 3)", recipeOfTwo().stageOf(1, 1, 3), 4);
        by("Promise 7", "recipe: number of the recipe");
        for (int there = 0; there <= 4; there++) {
            int number = there;
            range("stageOf(?, 0, 0) of " + there, 0, there - 1,
                    recipe -> recipes(number).stageOf(recipe, 0, 0));
        }
        by("Promise 7", "stage: 0 or more");
        range("stageOf(1, ?, 0)", 0, Integer.MAX_VALUE, stage -> recipeOfTwo().stageOf(1, stage, 0));
        by("Promise 7", "what: 0: its kind of vessel; 1: its work; 2: its least ageing; 3: its"
                + " greatest one; 4: the product of the recipe");
        BatchCellars x = recipeOfTwo();
        int[] first = {2, 200, 499, 500, 3};
        int[] second = {1, 1, 0, 4, 3};
        for (int what = 0; what < 5; what++) {
            due("stageOf(1, 0, " + what + ")", x.stageOf(1, 0, what), first[what]);
            due("stageOf(1, 1, " + what + ")", x.stageOf(1, 1, what), second[what]);
        }
        range("stageOf(1, 0, ?)", 0, 4, what -> recipeOfTwo().stageOf(1, 0, what));
    }

    private static void stageOfAnswers() {
        BatchCellars x = recipeOfTwo();
        by("Promise 7", "Returns the number;");
        due("stageOf(1, 0, 1)", x.stageOf(1, 0, 1), 200);
        by("Promise 7", "INVALID_ARGUMENT if there is no such recipe, stage is negative or what is"
                + " out of range;");
        due("recipe 2", x.stageOf(2, 0, 0), BAD);
        due("recipe -1", x.stageOf(-1, 0, 0), BAD);
        due("stage -1", x.stageOf(1, -1, 0), BAD);
        due("what 5", x.stageOf(1, 0, 5), BAD);
        due("what -1", x.stageOf(1, 0, -1), BAD);
        due("what 5 of no stage", x.stageOf(1, 2, 5), BAD);
        due("stage 9 of recipe 2", x.stageOf(2, 9, 0), BAD);
        by("Promise 7", "NOT_FOUND if it has not so many stages.");
        for (int what = 0; what < 5; what++) {
            due("stage 2 of 2", x.stageOf(1, 2, what), NONE);
            due("stage 3 of 2", x.stageOf(1, 3, what), NONE);
            due("stage 4 of 2", x.stageOf(1, 4, what), NONE);
            due("stage 0 of 0", x.stageOf(0, 0, what), NONE);
            due("a far stage", x.stageOf(1, Integer.MAX_VALUE, what), NONE);
            due("stage 4 of 4", Plants.fourStages().stageOf(0, 4, what), NONE);
        }
        due("stage 3 of 4", Plants.fourStages().stageOf(0, 3, 1), 1);
    }
}
