import java.util.ArrayList;
import java.util.Comparator;
import java.util.List;
import java.util.TreeMap;
import java.util.regex.Matcher;
import java.util.regex.Pattern;

/**
 * The document written down a second time, with no thought of room or speed: minutes go by one at a
 * time, what could be is tried on a copy, a time is looked for from the first one on.
 */
final class Model {
    private static final Pattern COMMAND = Pattern.compile(
            "(?:(b)(\\d{1,3}),(\\d{1,3}),(\\d{1,3})|([mo])(\\d{1,3}),(\\d{1,3})|([ext])(\\d{1,3}));");
    private static final int BAD = -1;
    private static final int NOT = -2;
    private static final int FULL = -3;
    private static final int NONE = -4;

    private State now = new State();
    private final List<State> history = new ArrayList<>();
    private String text = "";

    private static final class Batch {
        int recipe;
        int first;
        int mass;
        int blended;
        int stage;
        int vessel;
        int came;
        boolean spoiled;
    }

    /** All that a state of the history records. */
    private static final class State {
        final List<Integer> products = new ArrayList<>();
        final List<List<int[]>> stages = new ArrayList<>();
        final List<int[]> vessels = new ArrayList<>();
        final List<int[]> lines = new ArrayList<>();
        final TreeMap<Integer, Batch> batches = new TreeMap<>();
        final int[][] table = {{0, 5, 5, 5}, {5, 0, 5, 5}, {5, 5, 0, 5}, {5, 5, 5, 0}};
        final int[] settings = {10, 10};
        final int[] store = new int[4];
        int time;
        int begun;
        int made;
        int lost;
        int madeBatches;
        int spoiledBatches;
    }

    // a vessel's row: kind, size, batch or -1, last product or -1, minutes of cleaning
    // a line's row: set, speed, busy until, kilograms
    // a stage's row: kind, work, least, most

    private static State copyOf(State old) {
        State copy = new State();
        copy.products.addAll(old.products);
        for (List<int[]> row : old.stages) {
            copy.stages.add(copyOf(row));
        }
        copy.vessels.addAll(copyOf(old.vessels));
        copy.lines.addAll(copyOf(old.lines));
        old.batches.forEach((number, batch) -> copy.batches.put(number, copyOf(batch)));
        for (int i = 0; i < 4; i++) {
            copy.table[i] = old.table[i].clone();
            copy.store[i] = old.store[i];
        }
        copy.settings[0] = old.settings[0];
        copy.settings[1] = old.settings[1];
        copy.time = old.time;
        copy.begun = old.begun;
        copy.made = old.made;
        copy.lost = old.lost;
        copy.madeBatches = old.madeBatches;
        copy.spoiledBatches = old.spoiledBatches;
        return copy;
    }

    private static List<int[]> copyOf(List<int[]> rows) {
        List<int[]> copy = new ArrayList<>();
        for (int[] row : rows) {
            copy.add(row.clone());
        }
        return copy;
    }

    private static Batch copyOf(Batch old) {
        Batch copy = new Batch();
        copy.recipe = old.recipe;
        copy.first = old.first;
        copy.mass = old.mass;
        copy.blended = old.blended;
        copy.stage = old.stage;
        copy.vessel = old.vessel;
        copy.came = old.came;
        copy.spoiled = old.spoiled;
        return copy;
    }

    private Model copy() {
        Model copy = new Model();
        copy.now = copyOf(now);
        return copy;
    }

    private void record() {
        history.add(copyOf(now));
        if (history.size() == 5) {
            history.remove(0);
        }
    }

    private static boolean out(int value, int least, int most) {
        return value < least || value > most;
    }

    private boolean noRecipe(int number) {
        return out(number, 0, now.products.size() - 1);
    }

    private boolean noVessel(int number) {
        return out(number, 0, now.vessels.size() - 1);
    }

    private boolean noBatch(int number) {
        return !now.batches.containsKey(number);
    }

    // ---- recipes, vessels, lines

    public int recipe(int product) {
        if (out(product, 0, 3)) {
            return BAD;
        }
        if (now.products.size() == 4) {
            return FULL;
        }
        record();
        now.products.add(product);
        now.stages.add(new ArrayList<>());
        return now.products.size() - 1;
    }

    public int stage(int recipe, int kind, int work, int least, int most) {
        if (noRecipe(recipe) || out(kind, 0, 2) || out(work, 1, 200) || out(least, 0, 500)
                || out(most, least, 500)) {
            return BAD;
        }
        if (now.batches.values().stream().anyMatch(batch -> batch.recipe == recipe)) {
            return NOT;
        }
        if (now.stages.get(recipe).size() == 4) {
            return FULL;
        }
        record();
        now.stages.get(recipe).add(new int[] {kind, work, least, most});
        return now.stages.get(recipe).size() - 1;
    }

    public int vessel(int kind, int size) {
        if (out(kind, 0, 2) || out(size, 1, 999)) {
            return BAD;
        }
        if (now.vessels.size() == 6) {
            return FULL;
        }
        record();
        now.vessels.add(new int[] {kind, size, -1, -1, 0});
        return now.vessels.size() - 1;
    }

    public int line(int vessels, int speed) {
        int joined = 0;
        for (int bit = 0; bit < 32; bit++) {
            boolean in = (vessels >>> bit & 1) == 1;
            if (in && noVessel(bit)) {
                return BAD;
            }
            joined += in ? 1 : 0;
        }
        if (joined < 2 || out(speed, 1, 99)) {
            return BAD;
        }
        if (now.lines.size() == 3) {
            return FULL;
        }
        record();
        now.lines.add(new int[] {vessels, speed, 0, 0});
        return now.lines.size() - 1;
    }

    public int cleaning(int from, int to, int minutes) {
        if (out(from, 0, 3) || out(to, 0, 3) || out(minutes, 0, 99)) {
            return BAD;
        }
        record();
        int was = now.table[from][to];
        now.table[from][to] = minutes;
        return was;
    }

    public int stageOf(int recipe, int stage, int what) {
        if (noRecipe(recipe) || stage < 0 || out(what, 0, 4)) {
            return BAD;
        }
        if (stage >= now.stages.get(recipe).size()) {
            return NONE;
        }
        return what == 4 ? now.products.get(recipe) : now.stages.get(recipe).get(stage)[what];
    }

    // ---- batches

    public int begin(int recipe, int mass, int vessel) {
        if (noRecipe(recipe) || out(mass, 1, 999) || noVessel(vessel)) {
            return BAD;
        }
        if (now.stages.get(recipe).isEmpty()) {
            return NOT;
        }
        int[] row = now.vessels.get(vessel);
        if (row[2] != -1 || row[0] != now.stages.get(recipe).get(0)[0] || row[1] < mass) {
            return NOT;
        }
        record();
        int number = 0;
        while (now.batches.containsKey(number)) {
            number++;
        }
        Batch batch = new Batch();
        batch.recipe = recipe;
        batch.first = mass;
        batch.mass = mass;
        now.batches.put(number, batch);
        now.begun += mass;
        put(number, vessel);
        return number;
    }

    /** Cleans the vessel; the batch comes into it when that is over. */
    private void put(int number, int vessel) {
        Batch batch = now.batches.get(number);
        int[] row = now.vessels.get(vessel);
        int product = now.products.get(batch.recipe);
        int cleaning = row[3] == -1 ? 0 : now.table[row[3]][product];
        row[2] = number;
        row[3] = product;
        row[4] += cleaning;
        batch.vessel = vessel;
        batch.came = now.time + cleaning;
    }

    private int[] stageRow(Batch batch) {
        return now.stages.get(batch.recipe).get(batch.stage);
    }

    private boolean isLast(Batch batch) {
        return batch.stage + 1 == now.stages.get(batch.recipe).size();
    }

    private int age(Batch batch, int time) {
        return Math.max(0, time - batch.came - stageRow(batch)[1]);
    }

    private boolean isRipe(Batch batch, int time) {
        boolean worked = time - batch.came >= stageRow(batch)[1];
        return worked && age(batch, time) >= stageRow(batch)[2];
    }

    public int move(int number, int vessel) {
        if (noBatch(number) || noVessel(vessel)) {
            return BAD;
        }
        Batch batch = now.batches.get(number);
        int[] row = now.vessels.get(vessel);
        if (row[2] != -1 || isLast(batch) || !isRipe(batch, now.time) || row[1] < batch.mass
                || row[0] != now.stages.get(batch.recipe).get(batch.stage + 1)[0]) {
            return NOT;
        }
        for (int line = 0; line < now.lines.size(); line++) {
            int[] lineRow = now.lines.get(line);
            boolean joins = (lineRow[0] >> vessel & 1) == 1
                    && (lineRow[0] >> batch.vessel & 1) == 1;
            if (joins && lineRow[2] <= now.time) {
                record();
                carry(number, now.vessels.get(batch.vessel), vessel, lineRow);
                return line;
            }
        }
        return NOT;
    }

    private void carry(int number, int[] old, int vessel, int[] line) {
        Batch batch = now.batches.get(number);
        old[2] = -1;
        batch.stage++;
        put(number, vessel);
        for (int left = batch.mass; left > 0; left -= line[1]) {
            batch.came++;
        }
        line[2] = batch.came;
        line[3] += batch.mass;
        int lost = batch.mass * now.settings[0] / 1000;
        now.lost += lost;
        batch.mass -= lost;
    }

    public int end(int number) {
        if (noBatch(number)) {
            return BAD;
        }
        Batch batch = now.batches.get(number);
        if (!isLast(batch) || !isRipe(batch, now.time)) {
            return NOT;
        }
        record();
        if (batch.spoiled) {
            now.store[now.products.get(batch.recipe)] += batch.mass;
        } else {
            now.made += batch.mass;
            now.madeBatches++;
        }
        return takeOut(number);
    }

    private int takeOut(int number) {
        Batch gone = now.batches.remove(number);
        now.vessels.get(gone.vessel)[2] = -1;
        return gone.mass;
    }

    public int discard(int number) {
        if (noBatch(number)) {
            return BAD;
        }
        record();
        int mass = takeOut(number);
        now.lost += mass;
        return mass;
    }

    public int blend(int number, int mass) {
        if (noBatch(number) || out(mass, 1, 999)) {
            return BAD;
        }
        Batch batch = now.batches.get(number);
        int product = now.products.get(batch.recipe);
        if (batch.stage > 0 || batch.spoiled || now.store[product] < mass
                || now.vessels.get(batch.vessel)[1] - batch.mass < mass
                || (batch.blended + mass) * 100 > batch.first * now.settings[1]) {
            return NOT;
        }
        record();
        now.store[product] -= mass;
        batch.blended += mass;
        batch.mass += mass;
        return batch.mass;
    }

    public int pass(int minutes) {
        if (out(minutes, 1, 999)) {
            return BAD;
        }
        if (now.time + minutes > 30000) {
            return FULL;
        }
        record();
        int spoil = 0;
        for (int minute = 0; minute < minutes; minute++) {
            now.time++;
            for (Batch batch : now.batches.values()) {
                if (!batch.spoiled && age(batch, now.time) > stageRow(batch)[3]) {
                    batch.spoiled = true;
                    spoil++;
                }
            }
        }
        now.spoiledBatches += spoil;
        return spoil;
    }

    public int set(int what, int value) {
        if (out(what, 0, 1) || out(value, 0, what == 0 ? 100 : 50)) {
            return BAD;
        }
        record();
        int was = now.settings[what];
        now.settings[what] = value;
        return was;
    }

    // ---- what there is

    public int batchOf(int number, int what) {
        if (noBatch(number) || out(what, 0, 10)) {
            return BAD;
        }
        Batch batch = now.batches.get(number);
        int[] told = {batch.recipe, batch.mass, batch.stage, batch.vessel, batch.came,
            age(batch, now.time), isRipe(batch, now.time) ? 1 : 0, batch.spoiled ? 1 : 0,
            batch.blended, ripeFrom(batch), goodUntil(batch)};
        return told[what];
    }

    private int ripeFrom(Batch batch) {
        int time = 0;
        while (!isRipe(batch, time)) {
            time++;
        }
        return time;
    }

    private int goodUntil(Batch batch) {
        int time = 0;
        while (age(batch, time + 1) <= stageRow(batch)[3]) {
            time++;
        }
        return time;
    }

    public int vesselOf(int vessel, int what) {
        if (noVessel(vessel) || out(what, 0, 4)) {
            return BAD;
        }
        int told = now.vessels.get(vessel)[what];
        return told == -1 ? NONE : told;
    }

    public int lineOf(int line, int what) {
        if (out(line, 0, now.lines.size() - 1) || out(what, 0, 3)) {
            return BAD;
        }
        int told = now.lines.get(line)[what];
        return what == 2 ? Math.max(0, told - now.time) : told;
    }

    public int count(int what) {
        int mass = now.batches.values().stream().mapToInt(batch -> batch.mass).sum();
        int[] told = {now.products.size(), now.vessels.size(), now.lines.size(),
            now.batches.size(), now.time, now.begun, now.made, now.lost, mass, now.madeBatches,
            now.spoiledBatches, history.size(), text.length()};
        if (!out(what, 0, 12)) {
            return told[what];
        }
        if (what == 20 || what == 21) {
            return now.settings[what - 20];
        }
        return out(what, 30, 33) ? BAD : now.store[what - 30];
    }

    // ---- what could be

    public int targets(int number) {
        int set = 0;
        for (int vessel = 0; vessel < now.vessels.size(); vessel++) {
            set |= copy().move(number, vessel) >= 0 ? 1 << vessel : 0;
        }
        return noBatch(number) ? BAD : set;
    }

    public int quickest(int number, int what) {
        if (noBatch(number) || out(what, 0, 1)) {
            return BAD;
        }
        int best = NONE;
        int minutes = NONE;
        for (int vessel = now.vessels.size() - 1; vessel >= 0; vessel--) {
            Model tried = copy();
            if (tried.move(number, vessel) >= 0) {
                int takes = tried.now.batches.get(number).came - now.time;
                if (best == NONE || takes <= minutes) {
                    best = vessel;
                    minutes = takes;
                }
            }
        }
        return what == 0 ? best : minutes;
    }

    public int soonest(int number) {
        if (noBatch(number)) {
            return BAD;
        }
        Batch batch = copyOf(now.batches.get(number));
        int time = now.time;
        while (!isRipe(batch, time)) {
            time++;
        }
        while (!isLast(batch)) {
            batch.stage++;
            batch.came = time;
            int[] stage = stageRow(batch);
            int mass = batch.mass;
            if (now.vessels.stream().noneMatch(row -> row[0] == stage[0] && row[1] >= mass)) {
                return NONE;
            }
            batch.mass -= batch.mass * now.settings[0] / 1000;
            while (!isRipe(batch, time)) {
                time++;
            }
        }
        return time;
    }

    public int urgent(int place) {
        List<Integer> order = new ArrayList<>();
        for (int number : now.batches.keySet()) {
            if (!now.batches.get(number).spoiled) {
                order.add(number);
            }
        }
        order.sort(Comparator.comparing(number -> goodUntil(now.batches.get(number))));
        return place < 0 ? BAD : place < order.size() ? order.get(place) : NONE;
    }

    public int undo() {
        if (history.isEmpty()) {
            return NOT;
        }
        now = history.remove(history.size() - 1);
        return history.size();
    }

    // ---- texts

    public int type(int character) {
        if (out(character, 32, 126)) {
            return BAD;
        }
        if (text.length() == 80) {
            return FULL;
        }
        text += (char) character;
        return text.length();
    }

    public int clearText() {
        int length = text.length();
        text = "";
        return length;
    }

    /** Does the commands one by one; returns {how many, place, reason}, reason 0 if none fails. */
    private int[] run() {
        int place = 0;
        int commands = 0;
        while (place < text.length()) {
            Matcher matcher = COMMAND.matcher(text).region(place, text.length());
            if (!matcher.lookingAt()) {
                return new int[] {commands, place, 1};
            }
            int answer = command(matcher.group());
            if (answer < 0) {
                return new int[] {commands, place, answer == BAD ? 2 : 3};
            }
            place = matcher.end();
            commands++;
        }
        return new int[] {commands, place, 0};
    }

    private int command(String command) {
        String[] parts = command.substring(1, command.length() - 1).split(",");
        int[] n = new int[3];
        for (int i = 0; i < parts.length; i++) {
            n[i] = Integer.parseInt(parts[i]);
        }
        switch (command.charAt(0)) {
            case 'b':
                return begin(n[0], n[1], n[2]);
            case 'm':
                return move(n[0], n[1]);
            case 'e':
                return end(n[0]);
            case 'x':
                return discard(n[0]);
            case 'o':
                return blend(n[0], n[1]);
            default:
                return pass(n[0]);
        }
    }

    public int fault(int what) {
        Model tried = copy();
        tried.text = text;
        int[] outcome = tried.run();
        return out(what, 0, 1) ? BAD : outcome[2] == 0 ? NONE : outcome[1 + what];
    }

    public int play() {
        Model tried = copy();
        tried.text = text;
        int[] outcome = tried.run();
        if (outcome[2] != 0) {
            return NOT;
        }
        record();
        now = tried.now;
        return outcome[0];
    }
}
