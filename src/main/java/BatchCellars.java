/**
 * A plant that makes batches. The document of the project (DOC.md) says in numbered promises what
 * every call answers.
 */
public final class BatchCellars {
    public static final int INVALID_ARGUMENT = -1;
    public static final int NOT_POSSIBLE = -2;
    public static final int LIMIT_REACHED = -3;
    public static final int NOT_FOUND = -4;

    /** Stands for "no number" inside the class; an answer never bears it. */
    private static final int NONE = -1;

    private static final int PRODUCTS = 4;
    private static final int KINDS = 3;
    private static final int MAX_RECIPES = 4;
    private static final int MAX_STAGES = 4;
    private static final int MAX_VESSELS = 6;
    private static final int MAX_LINES = 3;
    private static final int MAX_BATCHES = 6;
    private static final int MAX_STATES = 4;

    private static final int MAX_WORK = 200;
    private static final int MAX_AGEING = 500;
    private static final int MAX_MASS = 999;
    private static final int MAX_SPEED = 99;
    private static final int MAX_CLEANING = 99;
    private static final int MAX_PASS = 999;
    private static final int MAX_TIME = 30000;

    private static final int TRANSFER_LOSS = 0;
    private static final int BLEND_SHARE = 1;
    private static final int SETTINGS = 2;
    private static final int MAX_LOSS = 100;
    private static final int MAX_SHARE = 50;

    private static final int MAX_TEXT = 80;
    private static final int MAX_DIGITS = 3;
    private static final int MAX_NUMBERS = 3;

    private static final int NO_FAULT = 0;
    private static final int BAD_FORM = 1;
    private static final int BAD_ARGUMENT = 2;
    private static final int OTHER_ERROR = 3;

    private final Plant plant = new Plant();
    /** The commands of the text are tried here, so that a fault leaves the plant as it is. */
    private final Plant rehearsal = new Plant();
    private final History history = new History();
    private final Script script = new Script();
    private int faultReason;
    private int faultPlace;
    private int commandsDone;

    public BatchCellars() {
    }

    // ---- recipes, vessels, lines

    public int recipe(int product) {
        history.prepare(plant);
        return history.settle(plant.addRecipe(product));
    }

    public int stage(int recipe, int kind, int work, int least, int most) {
        history.prepare(plant);
        return history.settle(plant.addStage(recipe, kind, work, least, most));
    }

    public int vessel(int kind, int size) {
        history.prepare(plant);
        return history.settle(plant.addVessel(kind, size));
    }

    public int line(int vessels, int speed) {
        history.prepare(plant);
        return history.settle(plant.addLine(vessels, speed));
    }

    public int cleaning(int from, int to, int minutes) {
        history.prepare(plant);
        return history.settle(plant.changeCleaning(from, to, minutes));
    }

    public int stageOf(int recipe, int stage, int what) {
        Recipe chosen = plant.recipeAt(recipe);
        if (chosen == null || stage < 0 || !isWithin(what, 0, 4)) {
            return INVALID_ARGUMENT;
        }
        Stage found = chosen.stageAt(stage);
        if (found == null) {
            return NOT_FOUND;
        }
        return what == 4 ? chosen.product : found.detail(what);
    }

    // ---- batches

    public int begin(int recipe, int mass, int vessel) {
        history.prepare(plant);
        return history.settle(plant.beginBatch(recipe, mass, vessel));
    }

    public int move(int batch, int vessel) {
        history.prepare(plant);
        return history.settle(plant.moveBatch(batch, vessel));
    }

    public int end(int batch) {
        history.prepare(plant);
        return history.settle(plant.endBatch(batch));
    }

    public int discard(int batch) {
        history.prepare(plant);
        return history.settle(plant.throwAway(batch));
    }

    public int blend(int batch, int mass) {
        history.prepare(plant);
        return history.settle(plant.blendIn(batch, mass));
    }

    public int pass(int minutes) {
        history.prepare(plant);
        return history.settle(plant.letPass(minutes));
    }

    public int set(int what, int value) {
        history.prepare(plant);
        return history.settle(plant.changeSetting(what, value));
    }

    // ---- what there is

    public int batchOf(int batch, int what) {
        Batch chosen = plant.batchAt(batch);
        if (chosen == null || !isWithin(what, 0, 10)) {
            return INVALID_ARGUMENT;
        }
        return chosen.detail(what, plant.time);
    }

    public int vesselOf(int vessel, int what) {
        Vessel chosen = plant.vesselAt(vessel);
        if (chosen == null || !isWithin(what, 0, 4)) {
            return INVALID_ARGUMENT;
        }
        int value = chosen.detail(what);
        return value == NONE ? NOT_FOUND : value;
    }

    public int lineOf(int line, int what) {
        Line chosen = plant.lineAt(line);
        if (chosen == null || !isWithin(what, 0, 3)) {
            return INVALID_ARGUMENT;
        }
        return chosen.detail(what, plant.time);
    }

    public int count(int what) {
        if (what == 11) {
            return history.states;
        }
        if (what == 12) {
            return script.length;
        }
        if (isWithin(what, 20, 20 + SETTINGS - 1)) {
            return entryAt(plant.settings, what - 20);
        }
        if (isWithin(what, 30, 30 + PRODUCTS - 1)) {
            return entryAt(plant.offGrade, what - 30);
        }
        return isWithin(what, 0, 10) ? plant.total(what) : INVALID_ARGUMENT;
    }

    // ---- what could be

    public int targets(int batch) {
        Batch chosen = plant.batchAt(batch);
        return chosen == null ? INVALID_ARGUMENT : plant.openTargets(chosen);
    }

    public int quickest(int batch, int what) {
        Batch chosen = plant.batchAt(batch);
        if (chosen == null || !isWithin(what, 0, 1)) {
            return INVALID_ARGUMENT;
        }
        int target = plant.quickestTarget(chosen);
        if (target == NONE) {
            return NOT_FOUND;
        }
        return what == 0 ? target : plant.minutesTo(chosen, target);
    }

    public int soonest(int batch) {
        Batch chosen = plant.batchAt(batch);
        return chosen == null ? INVALID_ARGUMENT : plant.earliestEnd(chosen);
    }

    public int urgent(int place) {
        return place < 0 ? INVALID_ARGUMENT : plant.batchInPlace(place);
    }

    public int undo() {
        return history.restore(plant);
    }

    // ---- texts

    public int type(int character) {
        return script.append(character);
    }

    public int clearText() {
        int length = script.length;
        script.length = 0;
        return length;
    }

    public int fault(int what) {
        if (!isWithin(what, 0, 1)) {
            return INVALID_ARGUMENT;
        }
        rehearse();
        if (faultReason == NO_FAULT) {
            return NOT_FOUND;
        }
        return what == 0 ? faultPlace : faultReason;
    }

    public int play() {
        rehearse();
        if (faultReason != NO_FAULT) {
            return NOT_POSSIBLE;
        }
        history.prepare(plant);
        plant.copyFrom(rehearsal);
        return history.settle(commandsDone);
    }

    /** Does the commands on the rehearsal plant, up to the first fault. */
    private void rehearse() {
        rehearsal.copyFrom(plant);
        faultReason = NO_FAULT;
        faultPlace = 0;
        commandsDone = 0;
        for (int tries = 0; tries < MAX_TEXT && faultPlace < script.length; tries++) {
            faultReason = script.readCommand(faultPlace) ? reasonOf(perform()) : BAD_FORM;
            if (faultReason != NO_FAULT) {
                return;
            }
            commandsDone++;
            faultPlace = script.behind;
        }
    }

    /** Does the command that was read last on the rehearsal plant; returns what its call would. */
    private int perform() {
        int first = entryAt(script.numbers, 0);
        int second = entryAt(script.numbers, 1);
        switch (script.letter) {
            case 'b':
                return rehearsal.beginBatch(first, second, entryAt(script.numbers, 2));
            case 'm':
                return rehearsal.moveBatch(first, second);
            case 'e':
                return rehearsal.endBatch(first);
            case 'x':
                return rehearsal.throwAway(first);
            case 'o':
                return rehearsal.blendIn(first, second);
            default:
                return rehearsal.letPass(first);
        }
    }

    private static int reasonOf(int answer) {
        if (answer == INVALID_ARGUMENT) {
            return BAD_ARGUMENT;
        }
        return answer < 0 ? OTHER_ERROR : NO_FAULT;
    }

    // ---- helpers that keep every index and divisor in its range

    private static boolean isWithin(int value, int least, int most) {
        return value >= least && value <= most;
    }

    private static int entryAt(int[] row, int index) {
        return index >= 0 && index < row.length ? row[index] : 0;
    }

    private static void putEntry(int[] row, int index, int value) {
        if (index >= 0 && index < row.length) {
            row[index] = value;
        }
    }

    private static void copyEntries(int[] from, int[] to) {
        System.arraycopy(from, 0, to, 0, Math.min(from.length, to.length));
    }

    private static final class Stage {
        int kind;
        int work;
        int least;
        int most;

        void copyFrom(Stage other) {
            kind = other.kind;
            work = other.work;
            least = other.least;
            most = other.most;
        }

        int detail(int what) {
            switch (what) {
                case 0:
                    return kind;
                case 1:
                    return work;
                case 2:
                    return least;
                default:
                    return most;
            }
        }
    }

    private static final class Recipe {
        int product;
        int stageCount;
        final Stage[] stages = new Stage[MAX_STAGES];

        Recipe() {
            for (int i = 0; i < stages.length; i++) {
                stages[i] = new Stage();
            }
        }

        void copyFrom(Recipe other) {
            product = other.product;
            stageCount = other.stageCount;
            for (int i = 0; i < stages.length && i < other.stages.length; i++) {
                stages[i].copyFrom(other.stages[i]);
            }
        }

        /** The stage with this number, or null if the recipe has not so many. */
        Stage stageAt(int number) {
            boolean there = number >= 0 && number < stageCount && number < stages.length;
            return there ? stages[number] : null;
        }
    }

    private static final class Vessel {
        int kind;
        int size;
        int batch = NONE;
        int lastProduct = NONE;
        int cleaned;

        void copyFrom(Vessel other) {
            kind = other.kind;
            size = other.size;
            batch = other.batch;
            lastProduct = other.lastProduct;
            cleaned = other.cleaned;
        }

        boolean canTake(int stageKind, int mass) {
            return batch == NONE && suits(stageKind, mass);
        }

        boolean suits(int stageKind, int mass) {
            return kind == stageKind && size >= mass;
        }

        /** NONE stands for a batch or a product that is not there. */
        int detail(int what) {
            switch (what) {
                case 0:
                    return kind;
                case 1:
                    return size;
                case 2:
                    return batch;
                case 3:
                    return lastProduct;
                default:
                    return cleaned;
            }
        }
    }

    private static final class Line {
        int vessels;
        int speed;
        int busyUntil;
        int carried;

        void copyFrom(Line other) {
            vessels = other.vessels;
            speed = other.speed;
            busyUntil = other.busyUntil;
            carried = other.carried;
        }

        boolean isFree(int time) {
            return busyUntil <= time;
        }

        boolean joins(int oneVessel, int otherVessel) {
            int both = 1 << oneVessel | 1 << otherVessel;
            return (vessels & both) == both;
        }

        int minutesFor(int mass) {
            return speed < 1 ? 0 : (mass + speed - 1) / speed;
        }

        int detail(int what, int time) {
            switch (what) {
                case 0:
                    return vessels;
                case 1:
                    return speed;
                case 2:
                    return Math.max(0, busyUntil - time);
                default:
                    return carried;
            }
        }
    }

    /**
     * A batch keeps the times of its stage as it comes into it: no stage of a recipe can change
     * while there is a batch of it.
     */
    private static final class Batch {
        boolean there;
        int recipe;
        int product;
        int firstMass;
        int mass;
        int blended;
        boolean spoiled;
        int stage;
        int vessel;
        int workBegins;
        int workEnds;
        int ripeFrom;
        int goodUntil;

        void copyFrom(Batch other) {
            there = other.there;
            recipe = other.recipe;
            product = other.product;
            firstMass = other.firstMass;
            mass = other.mass;
            blended = other.blended;
            spoiled = other.spoiled;
            stage = other.stage;
            vessel = other.vessel;
            workBegins = other.workBegins;
            workEnds = other.workEnds;
            ripeFrom = other.ripeFrom;
            goodUntil = other.goodUntil;
        }

        void start(int recipeNumber, int recipeProduct, int beginMass) {
            there = true;
            recipe = recipeNumber;
            product = recipeProduct;
            firstMass = beginMass;
            mass = beginMass;
            blended = 0;
            spoiled = false;
        }

        void enter(int stageNumber, Stage entered, int vesselNumber, int begins) {
            stage = stageNumber;
            vessel = vesselNumber;
            workBegins = begins;
            workEnds = begins + entered.work;
            ripeFrom = workEnds + entered.least;
            goodUntil = workEnds + entered.most;
        }

        boolean isRipe(int time) {
            return time >= ripeFrom;
        }

        int detail(int what, int time) {
            switch (what) {
                case 0:
                    return recipe;
                case 1:
                    return mass;
                case 2:
                    return stage;
                case 3:
                    return vessel;
                case 4:
                    return workBegins;
                case 5:
                    return Math.max(0, time - workEnds);
                case 6:
                    return isRipe(time) ? 1 : 0;
                case 7:
                    return spoiled ? 1 : 0;
                case 8:
                    return blended;
                case 9:
                    return ripeFrom;
                default:
                    return goodUntil;
            }
        }
    }

    /** All that a state of the history holds. */
    private static final class Plant {
        final Recipe[] recipes = new Recipe[MAX_RECIPES];
        int recipeCount;
        final Vessel[] vessels = new Vessel[MAX_VESSELS];
        int vesselCount;
        final Line[] lines = new Line[MAX_LINES];
        int lineCount;
        final Batch[] batches = new Batch[MAX_BATCHES];
        final int[] cleaningTable = new int[PRODUCTS * PRODUCTS];
        final int[] settings = new int[SETTINGS];
        final int[] offGrade = new int[PRODUCTS];
        int time;
        int begunMass;
        int madeMass;
        int lostMass;
        int madeBatches;
        int spoiledBatches;

        Plant() {
            for (int i = 0; i < recipes.length; i++) {
                recipes[i] = new Recipe();
            }
            for (int i = 0; i < vessels.length; i++) {
                vessels[i] = new Vessel();
            }
            for (int i = 0; i < lines.length; i++) {
                lines[i] = new Line();
            }
            for (int i = 0; i < batches.length; i++) {
                batches[i] = new Batch();
            }
            for (int i = 0; i < cleaningTable.length; i++) {
                cleaningTable[i] = i / PRODUCTS == i % PRODUCTS ? 0 : 5;
            }
            putEntry(settings, TRANSFER_LOSS, 10);
            putEntry(settings, BLEND_SHARE, 10);
        }

        void copyFrom(Plant other) {
            copyParts(other);
            copyEntries(other.cleaningTable, cleaningTable);
            copyEntries(other.settings, settings);
            copyEntries(other.offGrade, offGrade);
            recipeCount = other.recipeCount;
            vesselCount = other.vesselCount;
            lineCount = other.lineCount;
            time = other.time;
            begunMass = other.begunMass;
            madeMass = other.madeMass;
            lostMass = other.lostMass;
            madeBatches = other.madeBatches;
            spoiledBatches = other.spoiledBatches;
        }

        void copyParts(Plant other) {
            for (int i = 0; i < recipes.length && i < other.recipes.length; i++) {
                recipes[i].copyFrom(other.recipes[i]);
            }
            for (int i = 0; i < vessels.length && i < other.vessels.length; i++) {
                vessels[i].copyFrom(other.vessels[i]);
            }
            for (int i = 0; i < lines.length && i < other.lines.length; i++) {
                lines[i].copyFrom(other.lines[i]);
            }
            for (int i = 0; i < batches.length && i < other.batches.length; i++) {
                batches[i].copyFrom(other.batches[i]);
            }
        }

        // The four below return null if there is no part with this number.

        Recipe recipeAt(int number) {
            boolean there = number >= 0 && number < recipeCount && number < recipes.length;
            return there ? recipes[number] : null;
        }

        Vessel vesselAt(int number) {
            boolean there = number >= 0 && number < vesselCount && number < vessels.length;
            return there ? vessels[number] : null;
        }

        Line lineAt(int number) {
            boolean there = number >= 0 && number < lineCount && number < lines.length;
            return there ? lines[number] : null;
        }

        Batch batchAt(int number) {
            boolean there = number >= 0 && number < batches.length && batches[number].there;
            return there ? batches[number] : null;
        }

        // ---- what is built

        int addRecipe(int product) {
            if (!isWithin(product, 0, PRODUCTS - 1)) {
                return INVALID_ARGUMENT;
            }
            if (recipeCount >= MAX_RECIPES) {
                return LIMIT_REACHED;
            }
            recipeCount++;
            Recipe added = recipeAt(recipeCount - 1);
            if (added != null) {
                added.product = product;
                added.stageCount = 0;
            }
            return recipeCount - 1;
        }

        int addStage(int recipeNumber, int kind, int work, int least, int most) {
            Recipe recipe = recipeAt(recipeNumber);
            if (recipe == null || !isWithin(kind, 0, KINDS - 1) || !isWithin(work, 1, MAX_WORK)
                    || !isWithin(least, 0, MAX_AGEING) || !isWithin(most, least, MAX_AGEING)) {
                return INVALID_ARGUMENT;
            }
            if (hasBatchOf(recipeNumber)) {
                return NOT_POSSIBLE;
            }
            if (recipe.stageCount >= MAX_STAGES) {
                return LIMIT_REACHED;
            }
            recipe.stageCount++;
            Stage added = recipe.stageAt(recipe.stageCount - 1);
            if (added != null) {
                added.kind = kind;
                added.work = work;
                added.least = least;
                added.most = most;
            }
            return recipe.stageCount - 1;
        }

        boolean hasBatchOf(int recipeNumber) {
            for (int i = 0; i < batches.length; i++) {
                if (batches[i].there && batches[i].recipe == recipeNumber) {
                    return true;
                }
            }
            return false;
        }

        int addVessel(int kind, int size) {
            if (!isWithin(kind, 0, KINDS - 1) || !isWithin(size, 1, MAX_MASS)) {
                return INVALID_ARGUMENT;
            }
            if (vesselCount >= MAX_VESSELS) {
                return LIMIT_REACHED;
            }
            vesselCount++;
            Vessel added = vesselAt(vesselCount - 1);
            if (added != null) {
                added.kind = kind;
                added.size = size;
            }
            return vesselCount - 1;
        }

        int addLine(int joined, int speed) {
            int strangers = joined & ~((1 << vesselCount) - 1);
            if (strangers != 0 || Integer.bitCount(joined) < 2 || !isWithin(speed, 1, MAX_SPEED)) {
                return INVALID_ARGUMENT;
            }
            if (lineCount >= MAX_LINES) {
                return LIMIT_REACHED;
            }
            lineCount++;
            Line added = lineAt(lineCount - 1);
            if (added != null) {
                added.vessels = joined;
                added.speed = speed;
            }
            return lineCount - 1;
        }

        int changeCleaning(int from, int to, int minutes) {
            if (!isWithin(from, 0, PRODUCTS - 1) || !isWithin(to, 0, PRODUCTS - 1)
                    || !isWithin(minutes, 0, MAX_CLEANING)) {
                return INVALID_ARGUMENT;
            }
            int before = entryAt(cleaningTable, from * PRODUCTS + to);
            putEntry(cleaningTable, from * PRODUCTS + to, minutes);
            return before;
        }

        int changeSetting(int what, int value) {
            int most = what == TRANSFER_LOSS ? MAX_LOSS : MAX_SHARE;
            if (!isWithin(what, 0, SETTINGS - 1) || !isWithin(value, 0, most)) {
                return INVALID_ARGUMENT;
            }
            int before = entryAt(settings, what);
            putEntry(settings, what, value);
            return before;
        }

        // ---- what batches do

        int beginBatch(int recipeNumber, int mass, int vesselNumber) {
            Recipe recipe = recipeAt(recipeNumber);
            Vessel vessel = vesselAt(vesselNumber);
            if (recipe == null || vessel == null || !isWithin(mass, 1, MAX_MASS)) {
                return INVALID_ARGUMENT;
            }
            Stage first = recipe.stageAt(0);
            int number = lowestFreeNumber();
            if (first == null || !vessel.canTake(first.kind, mass)
                    || !isWithin(number, 0, batches.length - 1)) {
                return NOT_POSSIBLE;
            }
            int begins = time + occupy(vessel, number, recipe.product);
            batches[number].start(recipeNumber, recipe.product, mass);
            batches[number].enter(0, first, vesselNumber, begins);
            begunMass += mass;
            return number;
        }

        int lowestFreeNumber() {
            for (int i = 0; i < batches.length; i++) {
                if (!batches[i].there) {
                    return i;
                }
            }
            return NONE;
        }

        /** Cleans a vessel and puts a batch into it; returns the minutes of the cleaning. */
        int occupy(Vessel vessel, int batchNumber, int product) {
            int minutes = cleaningMinutes(vessel, product);
            vessel.cleaned += minutes;
            vessel.batch = batchNumber;
            vessel.lastProduct = product;
            return minutes;
        }

        int cleaningMinutes(Vessel vessel, int product) {
            if (vessel.lastProduct == NONE) {
                return 0;
            }
            return entryAt(cleaningTable, vessel.lastProduct * PRODUCTS + product);
        }

        int moveBatch(int number, int target) {
            Batch batch = batchAt(number);
            Vessel vessel = vesselAt(target);
            if (batch == null || vessel == null) {
                return INVALID_ARGUMENT;
            }
            int lineNumber = lineTo(batch, target);
            Line line = lineAt(lineNumber);
            Stage next = nextStage(batch);
            if (line == null || next == null) {
                return NOT_POSSIBLE;
            }
            leaveVessel(batch);
            int cleaning = occupy(vessel, number, batch.product);
            line.busyUntil = time + cleaning + line.minutesFor(batch.mass);
            line.carried += batch.mass;
            int lost = transferLoss(batch.mass);
            lostMass += lost;
            batch.mass -= lost;
            batch.enter(batch.stage + 1, next, target, line.busyUntil);
            return lineNumber;
        }

        /** The line that a move to this vessel takes now, NONE if the batch cannot be moved there. */
        int lineTo(Batch batch, int target) {
            Vessel vessel = vesselAt(target);
            Stage next = nextStage(batch);
            if (vessel == null || next == null || !batch.isRipe(time)
                    || !vessel.canTake(next.kind, batch.mass)) {
                return NONE;
            }
            for (int i = 0; i < lineCount && i < lines.length; i++) {
                if (lines[i].isFree(time) && lines[i].joins(batch.vessel, target)) {
                    return i;
                }
            }
            return NONE;
        }

        /** Null if the batch is in the last stage of its recipe. */
        Stage nextStage(Batch batch) {
            Recipe recipe = recipeAt(batch.recipe);
            return recipe == null ? null : recipe.stageAt(batch.stage + 1);
        }

        int transferLoss(int mass) {
            return mass * entryAt(settings, TRANSFER_LOSS) / 1000;
        }

        void leaveVessel(Batch batch) {
            Vessel vessel = vesselAt(batch.vessel);
            if (vessel != null) {
                vessel.batch = NONE;
            }
        }

        int endBatch(int number) {
            Batch batch = batchAt(number);
            if (batch == null) {
                return INVALID_ARGUMENT;
            }
            if (!batch.isRipe(time) || nextStage(batch) != null) {
                return NOT_POSSIBLE;
            }
            if (batch.spoiled) {
                addOffGrade(batch.product, batch.mass);
            } else {
                madeMass += batch.mass;
                madeBatches++;
            }
            remove(batch);
            return batch.mass;
        }

        int throwAway(int number) {
            Batch batch = batchAt(number);
            if (batch == null) {
                return INVALID_ARGUMENT;
            }
            lostMass += batch.mass;
            remove(batch);
            return batch.mass;
        }

        void remove(Batch batch) {
            leaveVessel(batch);
            batch.there = false;
        }

        void addOffGrade(int product, int mass) {
            putEntry(offGrade, product, entryAt(offGrade, product) + mass);
        }

        int blendIn(int number, int mass) {
            Batch batch = batchAt(number);
            if (batch == null || !isWithin(mass, 1, MAX_MASS)) {
                return INVALID_ARGUMENT;
            }
            Vessel vessel = vesselAt(batch.vessel);
            int share = batch.firstMass * entryAt(settings, BLEND_SHARE) / 100;
            if (vessel == null || batch.stage != 0 || batch.spoiled
                    || batch.mass + mass > vessel.size || batch.blended + mass > share
                    || mass > entryAt(offGrade, batch.product)) {
                return NOT_POSSIBLE;
            }
            addOffGrade(batch.product, -mass);
            batch.blended += mass;
            batch.mass += mass;
            return batch.mass;
        }

        int letPass(int minutes) {
            if (!isWithin(minutes, 1, MAX_PASS)) {
                return INVALID_ARGUMENT;
            }
            if (time + minutes > MAX_TIME) {
                return LIMIT_REACHED;
            }
            time += minutes;
            int spoiling = 0;
            for (int i = 0; i < batches.length; i++) {
                Batch batch = batches[i];
                if (batch.there && !batch.spoiled && time > batch.goodUntil) {
                    batch.spoiled = true;
                    spoiling++;
                }
            }
            spoiledBatches += spoiling;
            return spoiling;
        }

        // ---- what is told

        /** The numbers 0 to 10 of the document's count. */
        int total(int what) {
            switch (what) {
                case 0:
                    return recipeCount;
                case 1:
                    return vesselCount;
                case 2:
                    return lineCount;
                case 3:
                    return batchTotal();
                case 4:
                    return time;
                case 5:
                    return begunMass;
                case 6:
                    return madeMass;
                case 7:
                    return lostMass;
                case 8:
                    return massTotal();
                case 9:
                    return madeBatches;
                default:
                    return spoiledBatches;
            }
        }

        int batchTotal() {
            int sum = 0;
            for (int i = 0; i < batches.length; i++) {
                sum += batches[i].there ? 1 : 0;
            }
            return sum;
        }

        int massTotal() {
            int sum = 0;
            for (int i = 0; i < batches.length; i++) {
                sum += batches[i].there ? batches[i].mass : 0;
            }
            return sum;
        }

        int openTargets(Batch batch) {
            int found = 0;
            for (int target = 0; target < vesselCount; target++) {
                if (lineTo(batch, target) != NONE) {
                    found |= 1 << target;
                }
            }
            return found;
        }

        /** The minutes of cleaning and transfer of a move now, NONE if it cannot be moved there. */
        int minutesTo(Batch batch, int target) {
            Vessel vessel = vesselAt(target);
            Line line = lineAt(lineTo(batch, target));
            if (vessel == null || line == null) {
                return NONE;
            }
            return cleaningMinutes(vessel, batch.product) + line.minutesFor(batch.mass);
        }

        int quickestTarget(Batch batch) {
            int best = NONE;
            int bestMinutes = 0;
            for (int target = 0; target < vesselCount; target++) {
                int minutes = minutesTo(batch, target);
                if (minutes != NONE && (best == NONE || minutes < bestMinutes)) {
                    best = target;
                    bestMinutes = minutes;
                }
            }
            return best;
        }

        int earliestEnd(Batch batch) {
            Recipe recipe = recipeAt(batch.recipe);
            int end = Math.max(time, batch.ripeFrom);
            int mass = batch.mass;
            if (recipe == null) {
                return NOT_FOUND;
            }
            for (int i = batch.stage + 1; i < recipe.stageCount; i++) {
                Stage stage = recipe.stageAt(i);
                if (stage == null || !hasVesselFor(stage.kind, mass)) {
                    return NOT_FOUND;
                }
                mass -= transferLoss(mass);
                end += stage.work + stage.least;
            }
            return end;
        }

        boolean hasVesselFor(int kind, int mass) {
            for (int i = 0; i < vesselCount && i < vessels.length; i++) {
                if (vessels[i].suits(kind, mass)) {
                    return true;
                }
            }
            return false;
        }

        int batchInPlace(int place) {
            for (int i = 0; i < batches.length; i++) {
                if (canSpoil(i) && moreUrgentThan(i) == place) {
                    return i;
                }
            }
            return NOT_FOUND;
        }

        boolean canSpoil(int number) {
            Batch batch = batchAt(number);
            return batch != null && !batch.spoiled;
        }

        /** How many batches come ahead of this one in the order of urgency. */
        int moreUrgentThan(int number) {
            Batch batch = batchAt(number);
            int ahead = 0;
            for (int i = 0; i < batches.length && batch != null; i++) {
                int until = batches[i].goodUntil;
                boolean earlier = until < batch.goodUntil;
                boolean lowerOfEqual = until == batch.goodUntil && i < number;
                if (canSpoil(i) && (earlier || lowerOfEqual)) {
                    ahead++;
                }
            }
            return ahead;
        }
    }

    /**
     * The states before the latest changes, in a ring of rows that are used again and again. One
     * row more than states can be kept takes the state before a change that may yet fail.
     */
    private static final class History {
        final Plant[] rows = new Plant[MAX_STATES + 1];
        int open;
        int states;

        History() {
            for (int i = 0; i < rows.length; i++) {
                rows[i] = new Plant();
            }
        }

        void prepare(Plant plant) {
            if (open >= 0 && open < rows.length) {
                rows[open].copyFrom(plant);
            }
        }

        /** Keeps the prepared state if the answer of the change is no error. */
        int settle(int answer) {
            if (answer >= 0) {
                open = open + 1 < rows.length ? open + 1 : 0;
                states = Math.min(states + 1, MAX_STATES);
            }
            return answer;
        }

        int restore(Plant plant) {
            if (states == 0) {
                return NOT_POSSIBLE;
            }
            states--;
            open = open > 0 ? open - 1 : rows.length - 1;
            if (open >= 0 && open < rows.length) {
                plant.copyFrom(rows[open]);
            }
            return states;
        }
    }

    /** The text, and the command that was read from it last. */
    private static final class Script {
        final char[] signs = new char[MAX_TEXT];
        int length;
        char letter;
        final int[] numbers = new int[MAX_NUMBERS];
        int behind;

        int append(int character) {
            if (!isWithin(character, ' ', '~')) {
                return INVALID_ARGUMENT;
            }
            if (length < 0 || length >= signs.length) {
                return LIMIT_REACHED;
            }
            signs[length] = (char) character;
            length++;
            return length;
        }

        /** A sign that no text holds stands for every place outside it. */
        char signAt(int place) {
            boolean there = place >= 0 && place < length && place < signs.length;
            return there ? signs[place] : 0;
        }

        /** Reads the command that starts here with its ";"; false if it is not of the form. */
        boolean readCommand(int start) {
            letter = signAt(start);
            int wanted = numbersOf(letter);
            behind = start + 1;
            for (int i = 0; i < wanted; i++) {
                char closing = i + 1 < wanted ? ',' : ';';
                if (!readNumber(i) || signAt(behind) != closing) {
                    return false;
                }
                behind++;
            }
            return wanted > 0;
        }

        /** How many numbers follow a command's letter; 0 if it is no letter of a command. */
        static int numbersOf(char letter) {
            switch (letter) {
                case 'b':
                    return 3;
                case 'm':
                case 'o':
                    return 2;
                case 'e':
                case 'x':
                case 't':
                    return 1;
                default:
                    return 0;
            }
        }

        boolean readNumber(int index) {
            int value = 0;
            int digits = 0;
            while (digits < MAX_DIGITS && isWithin(signAt(behind), '0', '9')) {
                value = value * 10 + signAt(behind) - '0';
                digits++;
                behind++;
            }
            putEntry(numbers, index, value);
            return digits > 0;
        }
    }
}
