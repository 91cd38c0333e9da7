import java.util.function.Supplier;

/** The terms: texts; promises 24 to 27. */
final class TextEdges extends Edges {
    private static final String TEXTS = "Texts";
    private static final String LETTERS = "bmexot";

    static void all() {
        eightyCharacters();
        eachFollowedBySemicolon();
        letters();
        whatLettersDo();
        numbers();
        whereTheFaultIs();
        reasonOfForm();
        reasonsOfErrors();
        type();
        typeAnswers();
        clearText();
        fault();
        faultOfNothing();
        play();
        playDoesAsCalls();
        playAsOneChange();
        playAnswers();
    }

    /** Recipes 0 and 1 of one and two stages; vessels 0, 1 (kind 0) and 2 (kind 1); off-grade. */
    private static BatchCellars plant() {
        BatchCellars x = new BatchCellars();
        x.recipe(0);
        x.recipe(0);
        x.stage(0, 0, 1, 0, 0);
        x.stage(1, 0, 1, 0, 500);
        x.stage(1, 1, 1, 0, 500);
        x.vessel(0, 999);
        x.vessel(0, 999);
        x.vessel(1, 999);
        x.line(7, 99);
        x.begin(0, 200, 0);
        x.pass(2);
        x.end(0);
        return x;
    }

    private static BatchCellars plant(String text) {
        BatchCellars x = plant();
        Due.type(x, text);
        return x;
    }

    /** Place and reason of the fault, NONE for both if there is none. */
    private static void dueFault(String text, int place, int reason) {
        BatchCellars x = plant(text);
        due("place in " + text, x.fault(0), place);
        due("reason in " + text, x.fault(1), reason);
        if (place >= 0) {
            due("play() of " + text, x.play(), NOT);
        }
    }

    private static void good(String text) {
        dueFault(text, NONE, NONE);
    }

    private static void eightyCharacters() {
        by(TEXTS, "There is a text of at most 80 characters, initially empty:");
        BatchCellars x = new BatchCellars();
        due("its length", x.count(12), 0);
        for (int i = 1; i <= 80; i++) {
            due("type", x.type(';'), i);
        }
        due("an 81st", x.type(';'), FULL);
        due("its length", x.count(12), 80);
        String full = "t1;".repeat(25) + "t001;";
        good(full);
        due("play() of 80 characters", plant(full).play(), 26);
        dueFault("t1;".repeat(26) + "t1", 78, 1);
        dueFault("t1;".repeat(26) + "t1;", 78, 1);
        due("initially without commands", new BatchCellars().play(), 0);
    }

    private static void eachFollowedBySemicolon() {
        by(TEXTS, "commands, each followed by \";\":");
        good("t1;");
        good("t1;t2;");
        dueFault("t1", 0, 1);
        dueFault("t1;t2", 3, 1);
        dueFault("t1t2;", 0, 1);
        dueFault("t1,t2;", 0, 1);
        dueFault(";", 0, 1);
        dueFault(";t1;", 0, 1);
        dueFault("t1;;", 3, 1);
        dueFault("t1;;t2;", 3, 1);
        dueFault("t1; t2;", 3, 1);
        for (int sign = 32; sign < 127; sign++) {
            String behind = "t1" + (char) sign;
            dueFault(behind, sign == ';' ? NONE : 0, sign == ';' ? NONE : 1);
        }
    }

    private static void letters() {
        by(TEXTS, "\"b\" a recipe \",\" a mass \",\" a vessel (begin), \"m\" a batch \",\" a vessel"
                + " (move), \"e\" a batch (end), \"x\" a batch (thrown away), \"o\" a batch \",\""
                + " kilograms (blended), or \"t\" minutes;");
        String[] forms = {"b1,100,1;", "m0,2;", "e0;", "x0;", "o0,5;", "t1;"};
        String ahead = "b1,100,0;t1;";
        for (String form : forms) {
            int letter = form.charAt(0);
            boolean ended = letter == 'e';
            dueFault(ahead + form, ended ? ahead.length() : NONE, ended ? 3 : NONE);
            for (int sign = 32; sign < 127; sign++) {
                String other = ahead + (char) sign + form.substring(1);
                boolean same = numbersOf(sign) == numbersOf(letter);
                due("form of " + other, formIsBad(other), same ? 0 : 1);
            }
            for (int i = 1; i < form.length(); i++) {
                for (int sign = 32; sign < 127; sign++) {
                    signInPlace(ahead, form, i, (char) sign);
                }
                due("cut " + form, formIsBad(ahead + form.substring(0, i)), 1);
                String without = form.substring(0, i) + form.substring(i + 1);
                int digits = isDigit(form, i) && (isDigit(form, i - 1) || isDigit(form, i + 1)) ? 0 : 1;
                due("form of " + without, formIsBad(ahead + without), digits);
            }
        }
    }

    /** How many numbers follow a letter, 0 if it is none of a command. */
    private static int numbersOf(int letter) {
        int place = LETTERS.indexOf((char) letter);
        int[] numbers = {3, 2, 1, 1, 2, 1};
        return place < 0 ? 0 : numbers[place];
    }

    private static boolean isDigit(String form, int place) {
        return place < form.length() && form.charAt(place) >= '0' && form.charAt(place) <= '9';
    }

    /** A digit fits where one is, and only the sign that is there where none is. */
    private static void signInPlace(String ahead, String form, int place, char sign) {
        String text = ahead + form.substring(0, place) + sign + form.substring(place + 1);
        boolean digit = sign >= '0' && sign <= '9';
        boolean fits = isDigit(form, place) ? digit : sign == form.charAt(place);
        due("form of " + text, formIsBad(text), fits ? 0 : 1);
    }

    private static int formIsBad(String text) {
        return plant(text).fault(1) == 1 ? 1 : 0;
    }

    private static void whatLettersDo() {
        by(TEXTS, "\"b\" a recipe \",\" a mass \",\" a vessel (begin), \"m\" a batch \",\" a vessel"
                + " (move), \"e\" a batch (end), \"x\" a batch (thrown away), \"o\" a batch \",\""
                + " kilograms (blended), or \"t\" minutes;");
        String commands = "b1,100,0;o0,7;t1;m0,2;t999;e0;b0,321,1;b1,123,0;x1;t001;e0;";
        asByCalls(TextEdges::plant, commands);
    }

    /** The commands up to each of them do what the calls do, and what comes later is the same. */
    private static void asByCalls(Supplier<BatchCellars> plant, String commands) {
        for (int end = 0; end <= commands.length(); end++) {
            if (end > 0 && commands.charAt(end - 1) != ';') {
                continue;
            }
            String text = commands.substring(0, end);
            Told.same("behind " + text, plantToldBy(called(plant, text)),
                    plantToldBy(played(plant, text)));
            Told.same("later than " + text, plantToldBy(later(called(plant, text))),
                    plantToldBy(later(played(plant, text))));
        }
    }

    private static BatchCellars played(Supplier<BatchCellars> plant, String text) {
        BatchCellars x = plant.get();
        Due.retype(x, text);
        due("play() of " + text, x.play() >= 0 ? 1 : 0, 1);
        return x;
    }

    private static BatchCellars called(Supplier<BatchCellars> plant, String text) {
        BatchCellars x = plant.get();
        Due.retype(x, text);
        for (String command : text.split(";")) {
            int answer = command.isEmpty() ? 0 : call(x, command + ";");
            due("the call of " + command, answer >= 0 ? 1 : 0, 1);
        }
        return x;
    }

    private static BatchCellars later(BatchCellars x) {
        x.set(0, 100);
        for (int batch = 0; batch < 6; batch++) {
            x.blend(batch, 1);
            x.blend(batch, 9);
            x.move(batch, x.quickest(batch, 0));
        }
        x.pass(500);
        for (int batch = 0; batch < 6; batch++) {
            x.move(batch, x.quickest(batch, 0));
            x.end(batch);
        }
        return x;
    }

    private static int[] plantToldBy(BatchCellars x) {
        return Told.plantOf(Told.by(x));
    }

    private static int call(BatchCellars x, String command) {
        String[] parts = command.substring(1, command.length() - 1).split(",");
        int[] n = new int[3];
        for (int i = 0; i < parts.length; i++) {
            n[i] = Integer.parseInt(parts[i]);
        }
        switch (command.charAt(0)) {
            case 'b':
                return x.begin(n[0], n[1], n[2]);
            case 'm':
                return x.move(n[0], n[1]);
            case 'e':
                return x.end(n[0]);
            case 'x':
                return x.discard(n[0]);
            case 'o':
                return x.blend(n[0], n[1]);
            default:
                return x.pass(n[0]);
        }
    }

    private static void numbers() {
        by(TEXTS, "numbers of one to three digits, 0 ahead allowed.");
        for (int minutes = 1; minutes <= 999; minutes++) {
            BatchCellars x = new BatchCellars();
            Due.type(x, "t" + minutes + ";");
            due("play() of " + minutes, x.play(), 1);
            due("its minutes", x.count(4), minutes);
        }
        for (String zeros : new String[] {"t01;", "t001;", "t010;", "t099;"}) {
            BatchCellars x = new BatchCellars();
            Due.type(x, zeros);
            due("play() of " + zeros, x.play(), 1);
            due("its minutes", x.count(4), Integer.parseInt(zeros.substring(1, zeros.length() - 1)));
        }
        dueFault("t;", 0, 1);
        dueFault("t1000;", 0, 1);
        dueFault("t0001;", 0, 1);
        dueFault("t0000;", 0, 1);
        dueFault("t000;", 0, 2);
        String[] parts = {"1", "100", "0"};
        for (int i = 0; i < 3; i++) {
            for (int zeros = 0; zeros <= 3; zeros++) {
                String[] longer = parts.clone();
                longer[i] = "0".repeat(zeros) + parts[i];
                boolean fits = longer[i].length() <= 3;
                String text = "b" + String.join(",", longer) + ";";
                dueFault(text, fits ? NONE : 0, fits ? NONE : 1);
            }
            String[] shorter = parts.clone();
            shorter[i] = "";
            dueFault("b" + String.join(",", shorter) + ";", 0, 1);
        }
        good("b1,100,0;o000,001;t1;m000,002;x000;");
        dueFault("b1,100,0;o0000,1;", 9, 1);
        dueFault("b1,100,0;o0,0001;", 9, 1);
        dueFault("b1,100,0;t1;m0000,2;", 12, 1);
        dueFault("b1,100,0;t1;m0,0002;", 12, 1);
        dueFault("b1,100,0;x0000;", 9, 1);
        dueFault("b1,100,0;e0000;", 9, 1);
    }

    private static void whereTheFaultIs() {
        by(TEXTS, "The fault of the text is the position, from 0, of the first character of the first"
                + " command that is not possible, when those ahead of it are done;");
        for (int ahead = 0; ahead <= 25; ahead++) {
            dueFault("t1;".repeat(ahead) + "q;", 3 * ahead, 1);
            dueFault("t1;".repeat(ahead) + "t0;", 3 * ahead, 2);
            dueFault("t1;".repeat(ahead) + "e0;", 3 * ahead, 2);
        }
        dueFault("b1,9,0;m0,2;", 7, 3);
        dueFault("b1,9,0;t1;m0,2;", NONE, NONE);
        dueFault("b1,9,0;t1;m0,2;m0,2;", 15, 3);
        dueFault("b0,9,0;e0;q;", 7, 3);
        dueFault("b0,9,0;t1;e0;e0;q;", 13, 2);
        dueFault("b0,9,0;b0,9,0;", 7, 3);
        dueFault("b0,9,0;x0;b0,9,0;", NONE, NONE);
        dueFault("b0,100,0;o0,10;o0,1;", 15, 3);
        dueFault("q;t0;b9,9,9;", 0, 1);
        dueFault("t0;q;", 0, 2);
        BatchCellars x = plant("b0,100,0;o0,10;t2;e0;b0,100,0;o0,10;");
        due("off-grade that comes ahead", x.fault(0), NONE);
    }

    private static void reasonOfForm() {
        by(TEXTS, "its reason is 1 if it is not of this form, its \";\" included,");
        String[] ill = {"b", "b1", "b1,", "b1,9", "b1,9,", "b1,9,0", "b1,9;", "b1;", "b,9,0;",
            "b1,,0;", "b1,9,;", "b1,9,0,;", "b1,9,0,0;", "m", "m0", "m0,", "m0,2", "m0;", "m,2;",
            "m0,2,0;", "e", "e;", "e0", "e0,0;", "x", "x;", "x0", "x0,0;", "o", "o0", "o0,", "o0,1",
            "o0;", "o,1;", "o0,1,1;", "t", "t;", "t1", "t1,1;", "t-1;", "t+1;", "t 1;", "t1 ;", "T1;",
            "B1,9,0;", " t1;", "1;", ",;", "tt1;", "t1.0;"};
        for (String text : ill) {
            dueFault(text, 0, 1);
            dueFault("b1,9,0;" + text, 7, 1);
        }
        dueFault("e9", 0, 1);
        dueFault("t0", 0, 1);
        dueFault("b9,0,9", 0, 1);
    }

    private static void reasonsOfErrors() {
        by(TEXTS, "2 if the call would return INVALID_ARGUMENT for it,");
        String[] invalid = {"b2,9,0;", "b1,0,0;", "b1,9,3;", "b999,9,0;", "b1,9,999;", "m0,2;",
            "m6,2;", "e0;", "e999;", "x0;", "x6;", "o0,1;", "o999,1;", "t0;", "t00;"};
        for (String text : invalid) {
            dueFault(text, 0, 2);
            dueFault("t999;" + text, 5, 2);
        }
        dueFault("b1,9,0;m0,3;", 7, 2);
        dueFault("b1,9,0;o0,0;", 7, 2);
        dueFault("b1,9,0;o1,1;", 7, 2);
        dueFault("b1,9,0;e1;", 7, 2);
        dueFault("b1,9,0;x1;", 7, 2);
        dueFault("b1,9,0;x0;x0;", 10, 2);
        by(TEXTS, "3 if it would return another error.");
        String[] other = {"m0,2;", "m0,0;", "m0,1;", "e0;", "o0,1;", "b1,9,0;", "b1,9,2;"};
        for (String text : other) {
            dueFault("b1,9,0;" + text, 7, 3);
        }
        dueFault("b1,999,0;x0;b1,999,0;t1;e0;", 24, 3);
        BatchCellars x = Plants.atMinute(plant("t1;t1;"), 29999);
        due("LIMIT_REACHED by the second one", x.fault(0), 3);
        due("its reason", x.fault(1), 3);
        x.pass(1);
        due("LIMIT_REACHED by the first one", x.fault(0), 0);
        due("its reason", x.fault(1), 3);
        due("not played", x.play(), NOT);
        due("the time", x.count(4), 30000);
    }

    // ---- promises 24 and 25

    private static void type() {
        by("Promise 24", "Appends a character to the text.");
        BatchCellars x = new BatchCellars();
        x.type('t');
        x.type('1');
        due("two characters", x.count(12), 2);
        due("no command yet", x.fault(1), 1);
        x.type(';');
        due("a command", x.fault(1), NONE);
        x.type('t');
        due("a place behind it", x.fault(0), 3);
        by("Promise 24", "character: 32 to 126");
        range("type(?)", 32, 126, sign -> new BatchCellars().type(sign));
        for (int sign = 32; sign <= 126; sign++) {
            BatchCellars y = new BatchCellars();
            y.type('t');
            y.type(sign);
            y.type(';');
            boolean digit = sign > '0' && sign <= '9';
            due("play() of t and sign " + sign, y.play(), digit ? 1 : NOT);
            due("its minutes", y.count(4), digit ? sign - '0' : 0);
        }
    }

    private static void typeAnswers() {
        by("Promise 24", "Returns the length of the text;");
        BatchCellars x = new BatchCellars();
        for (int i = 1; i <= 80; i++) {
            due("type", x.type(31 + i), i);
        }
        by("Promise 24", "INVALID_ARGUMENT if character is out of range;");
        int[] wrong = {31, 127, 0, -1, 128, 255, 256 + 't', 65536 + 't', Integer.MAX_VALUE,
            Integer.MIN_VALUE, 10, 9};
        for (int sign : wrong) {
            due("type(" + sign + ") with 80", x.type(sign), BAD);
            due("type(" + sign + ") with none", new BatchCellars().type(sign), BAD);
        }
        by("Promise 24", "LIMIT_REACHED if it has 80 characters.");
        due("type(32)", x.type(32), FULL);
        due("type(126)", x.type(126), FULL);
        due("the length", x.count(12), 80);
        x.clearText();
        due("again", x.type(32), 1);
    }

    private static void clearText() {
        by("Promise 25", "Empties the text.");
        BatchCellars x = plant("t1;q");
        x.clearText();
        due("its length", x.count(12), 0);
        due("no fault", x.fault(1), NONE);
        due("no commands", x.play(), 0);
        due("typed at its first place", x.type('q'), 1);
        due("a fault at its first place", x.fault(0), 0);
        by("Promise 25", "Returns the length it had.");
        for (int length = 0; length <= 80; length++) {
            BatchCellars y = plant("x".repeat(length));
            due("clearText()", y.clearText(), length);
            due("clearText() again", y.clearText(), 0);
        }
        BatchCellars full = plant("x".repeat(80));
        full.type('x');
        due("not more than 80", full.clearText(), 80);
        BatchCellars z = plant("t999;t999;");
        z.clearText();
        Due.type(z, "t1;");
        due("nothing is left of the one ahead", z.play(), 1);
        due("a minute", z.count(4), 3);
        z.clearText();
        Due.type(z, "t1");
        due("no \";\" is left of the one ahead", z.fault(1), 1);
        z.clearText();
        due("no fault is left of the one ahead", z.fault(1), NONE);
    }

    // ---- promise 26

    private static void fault() {
        by("Promise 26", "Tells about the fault of the text.");
        BatchCellars x = plant("t5;t5;t0;");
        due("fault(0)", x.fault(0), 6);
        due("fault(1)", x.fault(1), 2);
        due("nothing is done by it", x.count(4), 2);
        by("Promise 26", "what: 0: its position; 1: its reason");
        range("fault(?)", 0, 1, what -> plant("t5;q").fault(what));
        due("its position", plant("t5;q").fault(0), 3);
        due("its reason", plant("t5;q").fault(1), 1);
        by("Promise 26", "Returns that;");
        due("position 79", plant("t1;".repeat(25) + "t01;t").fault(0), 79);
        due("position 0", plant("q").fault(0), 0);
        by("Promise 26", "INVALID_ARGUMENT if what is out of range;");
        for (String text : new String[] {"", "t1;", "q"}) {
            due("fault(2) of " + text, plant(text).fault(2), BAD);
            due("fault(-1) of " + text, plant(text).fault(-1), BAD);
        }
    }

    private static void faultOfNothing() {
        by("Promise 26", "NOT_FOUND if the text has no fault (also if it is empty).");
        due("an empty text", plant("").fault(0), NONE);
        due("an empty text", plant("").fault(1), NONE);
        due("an empty text of an empty plant", new BatchCellars().fault(0), NONE);
        due("a command", plant("t1;").fault(0), NONE);
        due("a command", plant("t1;").fault(1), NONE);
        BatchCellars x = plant("b1,9,0;");
        due("no fault", x.fault(0), NONE);
        x.play();
        due("a fault in the new state", x.fault(0), 0);
        due("its reason", x.fault(1), 3);
        x.discard(0);
        due("none again", x.fault(0), NONE);
    }

    // ---- promise 27

    private static void play() {
        by("Promise 27", "Does all commands of the text, which stays.");
        BatchCellars x = plant("b1,100,0;t1;o0,10;m0,2;");
        due("play()", x.play(), 4);
        due("its mass", x.batchOf(0, 1), 109);
        due("its vessel", x.batchOf(0, 3), 2);
        due("the time", x.count(4), 3);
        due("the text stays", x.count(12), 23);
        BatchCellars y = plant("t3;");
        for (int i = 1; i <= 20; i++) {
            due("play()", y.play(), 1);
            due("the time", y.count(4), 2 + 3 * i);
            due("the text stays", y.clearText(), 3);
            Due.type(y, "t3;");
        }
        by("Promise 27", "They are one change, also if there are none.");
        BatchCellars z = new BatchCellars();
        due("none", z.play(), 0);
        due("a change", z.count(11), 1);
        due("undone", z.undo(), 0);
        Due.type(z, "t1;t2;t3;t4;t5;t6;");
        due("six", z.play(), 6);
        due("a change", z.count(11), 1);
        due("undone", z.undo(), 0);
        due("the time", z.count(4), 0);
    }

    private static void playDoesAsCalls() {
        by("Promise 27", "Does all commands of the text, which stays.");
        asByCalls(ChangeEdges::plant, "m0,2;e1;o2,9;b0,100,1;b1,50,4;t4;o2,1;b1,7,0;x3;t14;x0;m1,2;");
    }

    private static void playAsOneChange() {
        by("Promise 27", "They are one change, also if there are none.");
        for (int changes = 0; changes <= 6; changes++) {
            BatchCellars x = new BatchCellars();
            for (int i = 1; i <= changes; i++) {
                x.pass(i);
            }
            int time = x.count(4);
            Due.type(x, "t7;t7;");
            x.play();
            due("states", x.count(11), Math.min(4, changes + 1));
            due("undo", x.undo(), Math.min(4, changes + 1) - 1);
            due("the time", x.count(4), time);
            x.clearText();
            x.play();
            due("states", x.count(11), Math.min(4, Math.min(3, changes) + 1));
            due("the time", x.count(4), time);
        }
    }

    private static void playAnswers() {
        by("Promise 27", "Returns how many there are in it;");
        for (int commands = 0; commands <= 26; commands++) {
            due("play()", plant("t1;".repeat(commands)).play(), commands);
        }
        by("Promise 27", "NOT_POSSIBLE if it has a fault.");
        for (String text : new String[] {"q", "t1;q", "t1;t0;", "t1;e0;", "t1;b1,9,2;", "t1"}) {
            BatchCellars x = plant(text);
            due("play() of " + text, x.play(), NOT);
            due("the time", x.count(4), 2);
            due("the text stays", x.count(12), text.length());
            Told.same("as it was", Told.by(plant(text)), Told.by(x));
        }
        BatchCellars y = Plants.atMinute(plant("t1;t1;"), 29999);
        due("above 30000", y.play(), NOT);
        due("the time", y.count(4), 29999);
    }
}
