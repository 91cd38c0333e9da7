/** The terms: numbers, products and recipes, vessels and lines, settings. */
final class TermsEdges extends Edges {
    private static final String RECIPES = "Products and recipes";
    private static final String VESSELS = "Vessels and lines";

    static void all() {
        plainWords();
        calls512();
        roundedDown();
        timeAndMasses();
        setsOfVessels();
        products();
        fourRecipes();
        productOfEach();
        fourStages();
        kindOfStage();
        workOfStage();
        ageingOfStage();
        sixVessels();
        rememberedProduct();
        minutesOfCleaning();
        firstTable();
        threeLines();
        busyUpTo();
        settings();
    }

    private static void plainWords() {
        Sentences.plain("What it is", "A plant that makes batches: recipes of stages, vessels of"
                + " three kinds that are cleaned between products by a table, lines that join"
                + " vessels and carry one thing at a time, ageing with a least and a greatest time,"
                + " batches that spoil, transfers with losses, a store of off-grade that is blended"
                + " in, all masses accounted for, which vessel would take a batch first, when a"
                + " batch could be done, and commands as texts with places and reasons of faults.");
    }

    private static void calls512() {
        by("What it is", "An object is used for at most 512 calls after it has been made; what"
                + " later calls answer is free.");
        BatchCellars x = Plants.oneStage(1, 0, 500);
        for (int call = 4; call <= 511; call += 2) {
            due("begin as call " + call, x.begin(0, 999, 0), 0);
            due("discard as call " + (call + 1), x.discard(0), 999);
        }
        due("count(7), the call 512", x.count(7), 254 * 999);
        BatchCellars y = new BatchCellars();
        for (int call = 1; call < 512; call++) {
            y.pass(1);
        }
        due("undo(), the call 512", y.undo(), 3);
        BatchCellars z = new BatchCellars();
        for (int call = 1; call < 512; call++) {
            z.type('t');
        }
        due("clearText(), the call 512", z.clearText(), 80);
    }

    private static void roundedDown() {
        by("Terms", "All numbers are whole numbers; divisions are rounded down (all divided numbers"
                + " are at least 0).");
        for (int loss : new int[] {0, 1, 10, 55, 99, 100}) {
            for (int mass = 1; mass <= 999; mass++) {
                BatchCellars x = Plants.ripePair(99, mass);
                x.set(0, loss);
                x.move(0, 1);
                int left = mass - (mass * loss - mass * loss % 1000) / 1000;
                due(mass + " less " + loss + " thousandths", x.batchOf(0, 1), left);
            }
        }
        for (int mass = 1; mass <= 666; mass++) {
            BatchCellars x = Plants.offGrade(999);
            x.set(1, 49);
            x.begin(0, mass, 1);
            int share = (mass * 49 - mass * 49 % 100) / 100;
            due("blending above 49 hundredths of " + mass, x.blend(0, share + 1), NOT);
            int then = share == 0 ? BAD : mass + share;
            due("blending 49 hundredths of " + mass, x.blend(0, share), then);
        }
    }

    private static void timeAndMasses() {
        by("Terms", "Time is told in minutes, 0 at first, masses in kilograms.");
        BatchCellars x = Plants.pair(1);
        due("the time", x.count(4), 0);
        x.pass(1);
        due("the time", x.count(4), 1);
        x.pass(999);
        due("the time", x.count(4), 1000);
        x.begin(0, 999, 0);
        due("the mass", x.batchOf(0, 1), 999);
        x.pass(1);
        x.move(0, 1);
        due("a kilogram a minute", x.lineOf(0, 2), 999);
    }

    private static void setsOfVessels() {
        by("Terms", "Sets of vessels are told as bits: bit k is for the vessel k.");
        for (int from = 0; from < 6; from++) {
            for (int to = 0; to < 6; to++) {
                if (from == to) {
                    continue;
                }
                BatchCellars x = new BatchCellars();
                x.recipe(0);
                x.stage(0, 0, 1, 0, 0);
                x.stage(0, 0, 1, 0, 0);
                for (int i = 0; i < 6; i++) {
                    x.vessel(0, 1);
                }
                int set = (1 << from) + (1 << to);
                due("line(" + set + ", 1)", x.line(set, 1), 0);
                due("its vessels", x.lineOf(0, 0), set);
                x.begin(0, 1, from);
                x.pass(1);
                due("from " + from + ", targets(0)", x.targets(0), 1 << to);
                for (int k = 0; k < 6; k++) {
                    due("from " + from + ", move(0, " + k + ")", x.move(0, k), k == to ? 0 : NOT);
                }
            }
        }
    }

    // ---- products and recipes

    private static void products() {
        by(RECIPES, "There are the products 0 to 3.");
        range("recipe(?)", 0, 3, p -> new BatchCellars().recipe(p));
        range("cleaning(?, 0, 0)", 0, 3, p -> new BatchCellars().cleaning(p, 0, 0));
        range("cleaning(0, ?, 0)", 0, 3, p -> new BatchCellars().cleaning(0, p, 0));
        for (int product = 0; product < 4; product++) {
            BatchCellars x = Plants.fourProducts(1);
            x.begin(product, 7, 0);
            due("product in the vessel", x.vesselOf(0, 3), product);
            x.pass(2);
            x.end(0);
            due("off-grade of product " + product, x.count(30 + product), 7);
        }
    }

    private static void fourRecipes() {
        by(RECIPES, "There are at most 4 recipes, numbered from 0;");
        BatchCellars x = new BatchCellars();
        for (int i = 0; i < 4; i++) {
            due("recipe(0)", x.recipe(0), i);
        }
        due("recipe(0), the fifth", x.recipe(0), FULL);
        due("recipe(3), the fifth", x.recipe(3), FULL);
        due("count(0)", x.count(0), 4);
        due("stage of recipe 3", x.stage(3, 0, 1, 0, 0), 0);
        due("stage of recipe 4", x.stage(4, 0, 1, 0, 0), BAD);
    }

    private static void productOfEach() {
        by(RECIPES, "each has a product,");
        int[] products = {3, 0, 2, 0};
        BatchCellars x = new BatchCellars();
        for (int i = 0; i < 4; i++) {
            x.recipe(products[i]);
            x.stage(i, 0, 1, 0, 0);
        }
        for (int i = 0; i < 4; i++) {
            due("product of recipe " + i, x.stageOf(i, 0, 4), products[i]);
        }
    }

    private static void fourStages() {
        by(RECIPES, "and at most 4 stages, numbered from 0.");
        BatchCellars x = new BatchCellars();
        for (int i = 0; i < 4; i++) {
            x.recipe(0);
        }
        for (int stage = 0; stage < 4; stage++) {
            for (int i = 0; i < 4; i++) {
                due("stage of recipe " + i, x.stage(i, 0, 1 + stage, 0, 0), stage);
            }
        }
        for (int i = 0; i < 4; i++) {
            due("a fifth stage of recipe " + i, x.stage(i, 0, 1, 0, 0), FULL);
            due("work of stage 0", x.stageOf(i, 0, 1), 1);
            due("work of stage 3", x.stageOf(i, 3, 1), 4);
            due("no stage 4", x.stageOf(i, 4, 1), NONE);
        }
    }

    private static void kindOfStage() {
        by(RECIPES, "A stage has a kind of vessel (0 to 2),");
        range("stage(0, ?, 1, 0, 0)", 0, 2, kind -> Plants.oneStage(1, 0, 0).stage(0, kind, 1, 0, 0));
        for (int kind = 0; kind < 3; kind++) {
            BatchCellars x = new BatchCellars();
            x.recipe(0);
            x.stage(0, kind, 1, 0, 0);
            due("its kind", x.stageOf(0, 0, 0), kind);
            for (int vessel = 0; vessel < 3; vessel++) {
                x.vessel(vessel, 9);
                int answer = x.begin(0, 9, vessel);
                due("kind " + kind + " in kind " + vessel, answer, vessel == kind ? 0 : NOT);
            }
        }
    }

    private static void workOfStage() {
        by(RECIPES, "minutes of work (1 to 200),");
        range("stage(0, 0, ?, 0, 0)", 1, 200, work -> Plants.oneStage(1, 0, 0).stage(0, 0, work, 0, 0));
        for (int work = 1; work <= 200; work++) {
            BatchCellars x = Plants.oneStage(work, 0, 0);
            due("its work", x.stageOf(0, 0, 1), work);
            x.begin(0, 1, 0);
            Plants.atMinute(x, work - 1);
            due("at work for " + work + " minutes", x.end(0), NOT);
            x.pass(1);
            due("ripe at minute " + work, x.end(0), 1);
        }
    }

    private static void ageingOfStage() {
        by(RECIPES, "and minutes of ageing behind the work: at least a number and at most another"
                + " one (0 to 500).");
        range("stage(0, 0, 1, ?, 500)", 0, 500,
                least -> Plants.oneStage(1, 0, 0).stage(0, 0, 1, least, 500));
        range("stage(0, 0, 1, 0, ?)", 0, 500,
                most -> Plants.oneStage(1, 0, 0).stage(0, 0, 1, 0, most));
        for (int ageing = 0; ageing <= 500; ageing++) {
            BatchCellars x = Plants.oneStage(3, ageing, ageing);
            due("its least ageing", x.stageOf(0, 0, 2), ageing);
            due("its greatest ageing", x.stageOf(0, 0, 3), ageing);
            x.begin(0, 5, 0);
            Plants.atMinute(x, 3 + ageing - 1);
            due("a minute ahead of " + ageing, x.end(0), NOT);
            x.pass(1);
            due("ripe", x.batchOf(0, 6), 1);
            due("not spoiled", x.batchOf(0, 7), 0);
            x.pass(1);
            due("spoiled", x.batchOf(0, 7), 1);
        }
    }

    // ---- vessels and lines

    private static void sixVessels() {
        by(VESSELS, "There are at most 6 vessels, numbered from 0, each of a kind (0 to 2) and a"
                + " size (1 to 999).");
        range("vessel(?, 1)", 0, 2, kind -> new BatchCellars().vessel(kind, 1));
        range("vessel(0, ?)", 1, 999, size -> new BatchCellars().vessel(0, size));
        BatchCellars x = new BatchCellars();
        for (int i = 0; i < 6; i++) {
            due("vessel " + i, x.vessel(i % 3, 999 - i), i);
        }
        due("a seventh", x.vessel(0, 9), FULL);
        for (int i = 0; i < 6; i++) {
            due("kind of " + i, x.vesselOf(i, 0), i % 3);
            due("size of " + i, x.vesselOf(i, 1), 999 - i);
        }
        due("no vessel 6", x.vesselOf(6, 0), BAD);
        for (int size = 1; size <= 999; size++) {
            BatchCellars y = new BatchCellars();
            y.recipe(0);
            y.stage(0, 0, 1, 0, 0);
            y.vessel(0, size);
            due("more than size " + size, y.begin(0, size + 1, 0), size == 999 ? BAD : NOT);
            due("as much as size " + size, y.begin(0, size, 0), 0);
        }
    }

    private static void rememberedProduct() {
        by(VESSELS, "A vessel has a batch or none, and remembers the product that was in it last"
                + " (none at first).");
        BatchCellars x = Plants.fourProducts(2);
        due("no batch at first", x.vesselOf(0, 2), NONE);
        due("no product at first", x.vesselOf(0, 3), NONE);
        for (int product = 0; product < 4; product++) {
            x.begin(product, 1, 0);
            due("a batch", x.vesselOf(0, 2), 0);
            due("its product", x.vesselOf(0, 3), product);
            x.discard(0);
            due("no batch", x.vesselOf(0, 2), NONE);
            due("the product that was in it", x.vesselOf(0, 3), product);
        }
        due("none in the other vessel", x.vesselOf(1, 3), NONE);
    }

    private static void minutesOfCleaning() {
        by(VESSELS, "To clean it for a product takes the minutes of the table from the product that"
                + " was in it last to this one (0 if there was none);");
        for (int from = 0; from < 4; from++) {
            for (int to = 0; to < 4; to++) {
                BatchCellars x = Plants.fourProducts(2);
                for (int any = 0; any < 16; any++) {
                    x.cleaning(any / 4, any % 4, 99 - any);
                }
                x.begin(from, 1, 0);
                due("a new vessel for " + from, x.batchOf(0, 4), 0);
                x.discard(0);
                x.begin(to, 1, 0);
                due("from " + from + " to " + to, x.batchOf(0, 4), 99 - (4 * from + to));
                x.begin(from, 1, 1);
                due("another new vessel", x.batchOf(1, 4), 0);
            }
        }
        BatchCellars y = Plants.fourProducts(1);
        y.cleaning(0, 2, 99);
        y.begin(0, 1, 0);
        y.discard(0);
        y.begin(1, 1, 0);
        y.discard(0);
        y.begin(2, 1, 0);
        due("from the last one, not from the first", y.vesselOf(0, 4), 5 + 5);
    }

    private static void firstTable() {
        by(VESSELS, "the table has 5 minutes for two unlike products and 0 for the same one at"
                + " first.");
        for (int from = 0; from < 4; from++) {
            for (int to = 0; to < 4; to++) {
                BatchCellars x = Plants.fourProducts(1);
                x.begin(from, 1, 0);
                x.discard(0);
                x.begin(to, 1, 0);
                int minutes = from == to ? 0 : 5;
                due("cleaned from " + from + " to " + to, x.vesselOf(0, 4), minutes);
                due("cleaning(" + from + ", " + to + ", 0)", x.cleaning(from, to, 0), minutes);
            }
        }
    }

    private static void threeLines() {
        by(VESSELS, "There are at most 3 lines, numbered from 0, each with a set of vessels that it"
                + " joins, and a speed (1 to 99 kilograms a minute).");
        range("line(3, ?)", 1, 99, speed -> Plants.fourProducts(2).line(3, speed));
        BatchCellars x = Plants.fourProducts(6);
        due("line(3, 1)", x.line(3, 1), 0);
        due("line(63, 99)", x.line(63, 99), 1);
        due("line(3, 1) again", x.line(3, 1), 2);
        due("a fourth", x.line(12, 50), FULL);
        due("count(2)", x.count(2), 3);
        int[] sets = {3, 63, 3};
        int[] speeds = {1, 99, 1};
        for (int i = 0; i < 3; i++) {
            due("vessels of line " + i, x.lineOf(i, 0), sets[i]);
            due("speed of line " + i, x.lineOf(i, 1), speeds[i]);
        }
        due("no line 3", x.lineOf(3, 0), BAD);
    }

    private static void busyUpTo() {
        by(VESSELS, "A line is busy up to some time.");
        for (int minutes = 1; minutes <= 12; minutes++) {
            BatchCellars x = new BatchCellars();
            x.recipe(0);
            x.stage(0, 0, 1, 0, 500);
            x.stage(0, 1, 1, 0, 500);
            for (int i = 0; i < 4; i++) {
                x.vessel(i / 2, 999);
            }
            x.line(15, 7);
            x.begin(0, 7 * minutes, 0);
            x.begin(0, 7, 1);
            due("not busy at first", x.lineOf(0, 2), 0);
            x.pass(1);
            x.move(0, 2);
            for (int left = minutes; left > 0; left--) {
                due("busy for", x.lineOf(0, 2), left);
                due("a move through a busy line", x.move(1, 3), NOT);
                x.pass(1);
            }
            due("busy no more", x.lineOf(0, 2), 0);
            due("a move at the time up to which it was busy", x.move(1, 3), 0);
        }
    }

    private static void settings() {
        by("Settings", "The settings are (in parentheses: range; first value): 0 thousandths lost by"
                + " a transfer (0 to 100; 10),");
        due("set(0, 10) at first", new BatchCellars().set(0, 10), 10);
        due("count(20) at first", new BatchCellars().count(20), 10);
        range("set(0, ?)", 0, 100, loss -> new BatchCellars().set(0, loss));
        BatchCellars x = Plants.ripePair(99, 999);
        x.move(0, 1);
        due("lost at first", x.count(7), 9);
        by("Settings", "1 hundredths that can be blended in (0 to 50; 10).");
        due("set(1, 10) at first", new BatchCellars().set(1, 10), 10);
        due("count(21) at first", new BatchCellars().count(21), 10);
        range("set(1, ?)", 0, 50, share -> new BatchCellars().set(1, share));
        BatchCellars y = Plants.offGrade(999);
        y.begin(0, 600, 1);
        due("blended above a tenth", y.blend(0, 61), NOT);
        due("blended a tenth", y.blend(0, 60), 660);
    }
}
