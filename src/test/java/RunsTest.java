import java.util.ArrayList;
import java.util.Arrays;
import java.util.List;

/**
 * Runs of calls made up by a fixed row of numbers. What a call answers is worked out from what the
 * calls that tell something answered before it; an undo is compared with an object on which the
 * undone call was never made; a text with the calls it stands for. Every object is made anew and
 * gets less than 512 calls.
 */
public final class RunsTest {
    private static final int RECIPE = 0;
    private static final int STAGE = 1;
    private static final int VESSEL = 2;
    private static final int LINE = 3;
    private static final int CLEANING = 4;
    private static final int BEGIN = 5;
    private static final int MOVE = 6;
    private static final int END = 7;
    private static final int DISCARD = 8;
    private static final int BLEND = 9;
    private static final int PASS = 10;
    private static final int SET = 11;
    private static final int UNDO = 12;
    private static final int[] ODDS = {1, 2, 2, 2, 2, 14, 16, 12, 1, 10, 18, 3, 6};

    private static long seed;
    private static final int[] good = new int[ODDS.length];
    private static int goodTexts;

    public static void main(String[] args) {
        for (int run = 1; run <= 120; run++) {
            seed = run;
            run(run);
        }
        for (int op = 0; op < ODDS.length; op++) {
            Due.due("the runs do enough of kind " + op + " (" + good[op] + ")",
                    good[op] > 50 ? 1 : 0, 1);
        }
        Due.due("the runs play enough texts (" + goodTexts + ")", goodTexts > 50 ? 1 : 0, 1);
        Due.close();
    }

    private static void run(int run) {
        List<int[]> calls = new ArrayList<>();
        List<int[]> kept = new ArrayList<>();
        int states = 0;
        for (int step = 0; step < 130; step++) {
            String place = "run " + run + ", step " + step;
            int[] call = step < 15 ? opening(step) : anyCall(at(calls));
            BatchCellars before = at(calls);
            int expected = call[0] == UNDO ? (states > 0 ? states - 1 : -2) : answer(before, call);
            BatchCellars after = at(calls);
            int got = make(after, call);
            Due.due(place + ", " + Arrays.toString(call), got, expected);
            if (got < 0) {
                Told.same(place + ", an error changes nothing", Told.by(at(calls)), Told.by(after));
            } else {
                good[call[0]]++;
                followed(place + ", behind " + Arrays.toString(call), before, call, got, after);
                calls.add(call);
            }
            if (got >= 0 && call[0] == UNDO) {
                states--;
                kept.remove(kept.size() - 1);
                Told.same(place + ", undone", plantToldBy(at(kept)), plantToldBy(at(calls)));
            } else if (got >= 0) {
                states = Math.min(4, states + 1);
                kept.add(call);
            }
            Due.due(place + ", states", at(calls).count(11), states);
            balance(place, at(calls));
            could(place, calls);
            if (step % 5 == 4) {
                text(place, calls);
            }
        }
    }

    // ---- calls

    private static int number(int bound) {
        seed = seed * 6364136223846793005L + 1442695040888963407L;
        return (int) ((seed >>> 33) % bound);
    }

    private static int[] opening(int step) {
        if (step < 2) {
            return new int[] {RECIPE, number(2)};
        }
        if (step < 7) {
            int least = number(4);
            int recipe = step < 4 ? step % 2 : number(2);
            return new int[] {STAGE, recipe, number(3), 1 + number(9), least, least + number(9)};
        }
        if (step < 12) {
            return new int[] {VESSEL, (step - 7) % 3, 20 + number(90)};
        }
        if (step == 13) {
            return new int[] {SET, 1, 50};
        }
        return new int[] {LINE, 1 + number(31) | number(31), 1 + number(40)};
    }

    private static int[] anyCall(BatchCellars x) {
        int all = 0;
        for (int odds : ODDS) {
            all += odds;
        }
        int left = number(all);
        int op = 0;
        while (left >= ODDS[op]) {
            left -= ODDS[op];
            op++;
        }
        return callOf(op, x);
    }

    private static int[] callOf(int op, BatchCellars x) {
        switch (op) {
            case RECIPE:
                return new int[] {op, number(6) - 1};
            case STAGE:
                int least = number(5) - 1;
                int kind = number(12) == 0 ? 3 : number(3);
                return new int[] {op, number(4), kind, number(12), least, least + number(9) - 1};
            case VESSEL:
                return new int[] {op, number(4), 20 * number(7)};
            case LINE:
                return new int[] {op, number(70), number(99)};
            case CLEANING:
                return new int[] {op, number(5), number(5), number(4) == 0 ? 100 : number(9)};
            case SET:
                return new int[] {op, number(3), number(110)};
            case UNDO:
                return new int[] {op};
            default:
                return batchCallOf(op, x);
        }
    }

    /** Most of these are aimed at what is possible: few calls at random would be. */
    private static int[] batchCallOf(int op, BatchCellars x) {
        int batch = number(8) < 7 ? number(3) : number(8) - 1;
        for (int tries = 0; tries < 12 && number(9) > 0 && !isAim(op, x, batch); tries++) {
            batch = number(6);
        }
        switch (op) {
            case BEGIN:
                int recipe = number(8) > 0 ? number(2) : number(4);
                int vessel = number(7);
                for (int tries = 0; tries < 12 && !isOpen(x, recipe, vessel); tries++) {
                    vessel = number(6);
                }
                return new int[] {op, recipe, number(20) == 0 ? number(120) : 1 + number(50), vessel};
            case MOVE:
                int quickest = x.quickest(batch, 0);
                boolean aimed = quickest >= 0 && number(3) > 0;
                return new int[] {op, batch, aimed ? quickest : number(7)};
            case BLEND:
                return new int[] {op, batch, number(9)};
            case PASS:
                int until = x.batchOf(batch, 9 + number(2)) + number(2) - x.count(4);
                int some = number(30) == 0 ? 999 + number(2) : number(6);
                return new int[] {op, until > 0 && number(2) == 0 ? until : some};
            default:
                return new int[] {op, batch};
        }
    }

    private static boolean isOpen(BatchCellars x, int recipe, int vessel) {
        boolean kind = x.stageOf(recipe, 0, 0) == x.vesselOf(vessel, 0);
        return kind && x.vesselOf(vessel, 2) == -4;
    }

    private static boolean isAim(int op, BatchCellars x, int batch) {
        int next = x.stageOf(x.batchOf(batch, 0), x.batchOf(batch, 2) + 1, 0);
        switch (op) {
            case MOVE:
                return x.targets(batch) > 0;
            case END:
                return next == -4 && x.batchOf(batch, 6) == 1;
            case BLEND:
                return x.batchOf(batch, 2) == 0 && x.batchOf(batch, 7) == 0;
            default:
                return x.batchOf(batch, 0) >= 0;
        }
    }

    private static int make(BatchCellars x, int[] c) {
        switch (c[0]) {
            case RECIPE:
                return x.recipe(c[1]);
            case STAGE:
                return x.stage(c[1], c[2], c[3], c[4], c[5]);
            case VESSEL:
                return x.vessel(c[1], c[2]);
            case LINE:
                return x.line(c[1], c[2]);
            case CLEANING:
                return x.cleaning(c[1], c[2], c[3]);
            case BEGIN:
                return x.begin(c[1], c[2], c[3]);
            case MOVE:
                return x.move(c[1], c[2]);
            case END:
                return x.end(c[1]);
            case DISCARD:
                return x.discard(c[1]);
            case BLEND:
                return x.blend(c[1], c[2]);
            case PASS:
                return x.pass(c[1]);
            case SET:
                return x.set(c[1], c[2]);
            default:
                return x.undo();
        }
    }

    private static BatchCellars at(List<int[]> calls) {
        BatchCellars x = new BatchCellars();
        for (int[] call : calls) {
            make(x, call);
        }
        return x;
    }

    private static int[] plantToldBy(BatchCellars x) {
        return Told.plantOf(Told.by(x));
    }

    // ---- what an answer must be, from what is told before it (by an object that is thrown away
    // behind the step, so that the table of cleaning can be read by changing it)

    private static int answer(BatchCellars x, int[] c) {
        switch (c[0]) {
            case RECIPE:
                return c[1] < 0 || c[1] > 3 ? -1 : x.count(0) == 4 ? -3 : x.count(0);
            case STAGE:
                return stageAnswer(x, c);
            case VESSEL:
                boolean fits = c[1] >= 0 && c[1] < 3 && c[2] > 0 && c[2] < 1000;
                return !fits ? -1 : x.count(1) == 6 ? -3 : x.count(1);
            case LINE:
                boolean joins = c[1] >> x.count(1) == 0 && Integer.bitCount(c[1]) > 1;
                return !joins || c[2] < 1 || c[2] > 99 ? -1 : x.count(2) == 3 ? -3 : x.count(2);
            case CLEANING:
                boolean ok = c[1] < 4 && c[2] < 4 && c[3] < 100;
                return ok ? x.cleaning(c[1], c[2], 0) : -1;
            case SET:
                return c[1] > 1 || c[2] > (c[1] == 0 ? 100 : 50) ? -1 : x.count(20 + c[1]);
            case PASS:
                return passAnswer(x, c[1]);
            default:
                return batchAnswer(x, c);
        }
    }

    private static int stageAnswer(BatchCellars x, int[] c) {
        if (c[1] >= x.count(0) || c[2] > 2 || c[3] < 1 || c[4] < 0 || c[5] < c[4]) {
            return -1;
        }
        for (int b = 0; b < 6; b++) {
            if (x.batchOf(b, 0) == c[1]) {
                return -2;
            }
        }
        return stagesOf(x, c[1]) == 4 ? -3 : stagesOf(x, c[1]);
    }

    private static int stagesOf(BatchCellars x, int recipe) {
        int stages = 0;
        while (x.stageOf(recipe, stages, 0) >= 0) {
            stages++;
        }
        return stages;
    }

    private static int passAnswer(BatchCellars x, int minutes) {
        if (minutes < 1 || minutes > 999) {
            return -1;
        }
        if (x.count(4) + minutes > 30000) {
            return -3;
        }
        int spoil = 0;
        for (int b = 0; b < 6; b++) {
            boolean due = x.count(4) + minutes > x.batchOf(b, 10);
            spoil += x.batchOf(b, 7) == 0 && due ? 1 : 0;
        }
        return spoil;
    }

    private static int batchAnswer(BatchCellars x, int[] c) {
        if (c[0] == BEGIN) {
            return beginAnswer(x, c);
        }
        int batch = c[1];
        boolean there = x.batchOf(batch, 0) >= 0;
        boolean last = there && x.batchOf(batch, 2) + 1 == stagesOf(x, x.batchOf(batch, 0));
        switch (c[0]) {
            case MOVE:
                return !there || c[2] >= x.count(1) ? -1 : last ? -2 : lineFor(x, batch, c[2]);
            case END:
                boolean ripe = x.batchOf(batch, 6) == 1;
                return !there ? -1 : !last || !ripe ? -2 : x.batchOf(batch, 1);
            case DISCARD:
                return there ? x.batchOf(batch, 1) : -1;
            default:
                return !there || c[2] < 1 ? -1 : blendAnswer(x, batch, c[2]);
        }
    }

    private static int beginAnswer(BatchCellars x, int[] c) {
        if (c[1] >= x.count(0) || c[2] < 1 || c[3] >= x.count(1)) {
            return -1;
        }
        boolean kind = x.stageOf(c[1], 0, 0) == x.vesselOf(c[3], 0);
        if (!kind || x.vesselOf(c[3], 2) != -4 || x.vesselOf(c[3], 1) < c[2]) {
            return -2;
        }
        int number = 0;
        while (x.batchOf(number, 0) >= 0) {
            number++;
        }
        return number;
    }

    private static int lineFor(BatchCellars x, int batch, int vessel) {
        int kind = x.stageOf(x.batchOf(batch, 0), x.batchOf(batch, 2) + 1, 0);
        boolean fits = x.vesselOf(vessel, 1) >= x.batchOf(batch, 1);
        if (x.vesselOf(vessel, 2) >= 0 || kind != x.vesselOf(vessel, 0) || !fits
                || x.count(4) < x.batchOf(batch, 9)) {
            return -2;
        }
        for (int line = 0; line < x.count(2); line++) {
            int set = x.lineOf(line, 0);
            boolean both = (set >> vessel & 1) == 1 && (set >> x.batchOf(batch, 3) & 1) == 1;
            if (both && x.lineOf(line, 2) == 0) {
                return line;
            }
        }
        return -2;
    }

    private static int blendAnswer(BatchCellars x, int batch, int mass) {
        int then = x.batchOf(batch, 1) + mass;
        int blended = x.batchOf(batch, 8) + mass;
        int product = x.stageOf(x.batchOf(batch, 0), 0, 4);
        boolean fits = x.vesselOf(x.batchOf(batch, 3), 1) >= then;
        // in stage 0 no mass is lost: what was not blended in was there at the beginning
        boolean share = 100 * blended <= x.count(21) * (then - blended);
        boolean may = x.batchOf(batch, 2) == 0 && x.batchOf(batch, 7) == 0;
        return may && fits && share && x.count(30 + product) >= mass ? then : -2;
    }

    // ---- what must have followed

    private static void followed(String place, BatchCellars x, int[] c, int got, BatchCellars y) {
        switch (c[0]) {
            case BEGIN:
                Due.due(place + ", mass begun", y.count(5), x.count(5) + c[2]);
                Due.due(place + ", mass", y.batchOf(got, 1), c[2]);
                Due.due(place + ", blended", y.batchOf(got, 8), 0);
                entered(place, x, got, c[3], y, 0);
                break;
            case MOVE:
                moved(place, x, c, got, y);
                break;
            case END:
                boolean spoiled = x.batchOf(c[1], 7) == 1;
                int product = x.stageOf(x.batchOf(c[1], 0), 0, 4);
                int store = y.count(30 + product) - x.count(30 + product);
                Due.due(place + ", made", y.count(6) - x.count(6), spoiled ? 0 : got);
                Due.due(place + ", batches made", y.count(9) - x.count(9), spoiled ? 0 : 1);
                Due.due(place + ", store", store, spoiled ? got : 0);
                gone(place, x, c[1], y);
                break;
            case DISCARD:
                Due.due(place + ", lost", y.count(7) - x.count(7), got);
                gone(place, x, c[1], y);
                break;
            case PASS:
                Due.due(place + ", time", y.count(4) - x.count(4), c[1]);
                Due.due(place + ", spoiled", y.count(10) - x.count(10), got);
                break;
            default:
                break;
        }
    }

    private static void gone(String place, BatchCellars x, int batch, BatchCellars y) {
        int vessel = x.batchOf(batch, 3);
        Due.due(place + ", gone", y.batchOf(batch, 0), -1);
        Due.due(place + ", vessel", y.vesselOf(vessel, 2), -4);
        Due.due(place + ", product", y.vesselOf(vessel, 3), x.vesselOf(vessel, 3));
        Due.due(place + ", batches", y.count(3), x.count(3) - 1);
    }

    private static void moved(String place, BatchCellars x, int[] c, int line, BatchCellars y) {
        int mass = x.batchOf(c[1], 1);
        int lost = mass * x.count(20) / 1000;
        int minutes = 0;
        while (minutes * x.lineOf(line, 1) < mass) {
            minutes++;
        }
        Due.due(place + ", mass", y.batchOf(c[1], 1), mass - lost);
        Due.due(place + ", lost", y.count(7) - x.count(7), lost);
        Due.due(place + ", carried", y.lineOf(line, 3) - x.lineOf(line, 3), mass);
        Due.due(place + ", busy", y.lineOf(line, 2), y.batchOf(c[1], 4) - y.count(4));
        Due.due(place + ", stage", y.batchOf(c[1], 2), x.batchOf(c[1], 2) + 1);
        Due.due(place + ", spoiled", y.batchOf(c[1], 7), x.batchOf(c[1], 7));
        Due.due(place + ", left", y.vesselOf(x.batchOf(c[1], 3), 2), -4);
        entered(place, x, c[1], c[2], y, minutes);
    }

    private static void entered(String place, BatchCellars x, int batch, int vessel,
            BatchCellars y, int transfer) {
        int cleaned = y.vesselOf(vessel, 4) - x.vesselOf(vessel, 4);
        int recipe = y.batchOf(batch, 0);
        int stage = y.batchOf(batch, 2);
        int begins = y.batchOf(batch, 4);
        int worked = begins + y.stageOf(recipe, stage, 1);
        int was = x.vesselOf(vessel, 3);
        int product = y.stageOf(recipe, 0, 4);
        int table = was < 0 ? 0 : x.cleaning(was, product, 0);
        Due.due(place + ", begins", begins, y.count(4) + cleaned + transfer);
        Due.due(place + ", cleaning", cleaned, table);
        Due.due(place + ", vessel", y.batchOf(batch, 3), vessel);
        Due.due(place + ", batch", y.vesselOf(vessel, 2), batch);
        Due.due(place + ", product", y.vesselOf(vessel, 3), product);
        Due.due(place + ", ripe from", y.batchOf(batch, 9), worked + y.stageOf(recipe, stage, 2));
        Due.due(place + ", good until", y.batchOf(batch, 10), worked + y.stageOf(recipe, stage, 3));
    }

    private static void balance(String place, BatchCellars x) {
        int out = x.count(6) + x.count(7) + x.count(8);
        int store = x.count(30) + x.count(31) + x.count(32) + x.count(33);
        Due.due(place + ", all mass", out + store, x.count(5));
    }

    // ---- what could be

    private static void could(String place, List<int[]> calls) {
        for (int b = 0; b < 6; b++) {
            BatchCellars x = at(calls);
            if (x.batchOf(b, 0) < 0) {
                continue;
            }
            BatchCellars y = at(calls);
            int set = 0;
            int best = -4;
            int minutes = Integer.MAX_VALUE;
            for (int vessel = 0; vessel < y.count(1); vessel++) {
                if (y.move(b, vessel) >= 0) {
                    set |= 1 << vessel;
                    int takes = y.batchOf(b, 4) - y.count(4);
                    best = takes < minutes ? vessel : best;
                    minutes = Math.min(minutes, takes);
                    y.undo();
                }
            }
            Due.due(place + ", targets", x.targets(b), set);
            Due.due(place + ", quickest", x.quickest(b, 0), best);
            Due.due(place + ", in minutes", x.quickest(b, 1), best < 0 ? -4 : minutes);
            Due.due(place + ", soonest", x.soonest(b), soonest(x, b));
        }
        urgent(place, at(calls));
    }

    private static int soonest(BatchCellars x, int b) {
        int recipe = x.batchOf(b, 0);
        int mass = x.batchOf(b, 1);
        int time = Math.max(x.batchOf(b, 9), x.count(4));
        for (int stage = x.batchOf(b, 2) + 1; x.stageOf(recipe, stage, 0) >= 0; stage++) {
            boolean found = false;
            for (int v = 0; v < x.count(1); v++) {
                boolean kind = x.vesselOf(v, 0) == x.stageOf(recipe, stage, 0);
                found |= kind && x.vesselOf(v, 1) >= mass;
            }
            if (!found) {
                return -4;
            }
            mass -= mass * x.count(20) / 1000;
            time += x.stageOf(recipe, stage, 1) + x.stageOf(recipe, stage, 2);
        }
        return time;
    }

    private static void urgent(String place, BatchCellars x) {
        List<Integer> order = new ArrayList<>();
        for (int b = 0; b < 6; b++) {
            if (x.batchOf(b, 7) == 0) {
                order.add(b);
            }
        }
        order.sort((one, other) -> Integer.compare(x.batchOf(one, 10), x.batchOf(other, 10)));
        for (int i = 0; i < order.size(); i++) {
            Due.due(place + ", urgent", x.urgent(i), order.get(i));
        }
        Due.due(place + ", no more are urgent", x.urgent(order.size()), -4);
    }

    // ---- texts

    private static final int[] TOLD_BY_LETTER = {BEGIN, MOVE, END, DISCARD, BLEND, PASS};

    private static void text(String place, List<int[]> calls) {
        StringBuilder text = new StringBuilder();
        List<int[]> played = new ArrayList<>(calls);
        int due = -4;
        int reason = -4;
        int commands = 0;
        for (int i = 0; i < 12; i++) {
            int[] call = callOf(TOLD_BY_LETTER[number(6)], at(played));
            boolean told = call[0] != PASS || call[1] < 1000;
            String command = commandOf(call);
            if (!told || command.contains("-") || text.length() + command.length() > 80) {
                continue;
            }
            int answer = make(at(played), call);
            if (answer < 0 && number(6) > 0) {
                continue;
            }
            if (answer < 0 && due == -4) {
                due = text.length();
                reason = answer == -1 ? 2 : 3;
            }
            if (answer >= 0) {
                played.add(call);
            }
            commands++;
            text.append(command);
        }
        BatchCellars x = at(calls, text.toString());
        Due.due(place + ", place in " + text, x.fault(0), due);
        Due.due(place + ", reason in " + text, x.fault(1), reason);
        int[] before = Told.by(at(calls, text.toString()));
        Due.due(place + ", play() of " + text, x.play(), due == -4 ? commands : -2);
        if (due == -4) {
            goodTexts += commands > 1 ? 1 : 0;
            BatchCellars y = at(played, text.toString());
            Told.same(place + ", played " + text, plantToldBy(y), plantToldBy(x));
            BatchCellars z = at(calls, text.toString());
            z.play();
            z.undo();
            Due.due(place + ", one state", z.count(11), Math.min(3, at(calls).count(11)));
            Told.same(place + ", unplayed " + text, Told.plantOf(before), plantToldBy(z));
        } else {
            Told.same(place + ", not played " + text, before, Told.by(x));
        }
    }

    private static BatchCellars at(List<int[]> calls, String text) {
        BatchCellars x = at(calls);
        Due.type(x, text);
        return x;
    }

    private static String commandOf(int[] call) {
        String letters = ".....bmexot";
        StringBuilder command = new StringBuilder();
        command.append(letters.charAt(call[0]));
        for (int i = 1; i < call.length; i++) {
            command.append(i > 1 ? "," : "").append(number(4) == 0 && call[i] < 100 ? "0" : "");
            command.append(call[i]);
        }
        return command.append(';').toString();
    }
}
