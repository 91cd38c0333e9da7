/** Promises 23 to 27: undo and texts. */
public final class TextsTest {
    private static final int BAD = BatchCellars.INVALID_ARGUMENT;
    private static final int NOT = BatchCellars.NOT_POSSIBLE;
    private static final int FULL = BatchCellars.LIMIT_REACHED;
    private static final int NONE = BatchCellars.NOT_FOUND;

    public static void main(String[] args) {
        undo();
        undoOfEachChange();
        typing();
        forms();
        numbers();
        reasons();
        firstFault();
        playing();
        playIsOneChange();
        Due.close();
    }

    /** Recipe 0 of one stage and recipe 1 of two; vessels 0 and 1 of kind 0, 2 of kind 1. */
    private static BatchCellars plant() {
        BatchCellars x = new BatchCellars();
        x.recipe(0);
        x.recipe(1);
        x.stage(0, 0, 5, 0, 9);
        x.stage(1, 0, 5, 0, 9);
        x.stage(1, 1, 5, 0, 9);
        x.vessel(0, 99);
        x.vessel(0, 99);
        x.vessel(1, 99);
        x.line(7, 50);
        return x;
    }

    private static void undo() {
        BatchCellars x = new BatchCellars();
        Due.due("23: nothing to undo", x.undo(), NOT);
        x.recipe(4);
        Due.due("23: errors are no changes", x.undo(), NOT);
        for (int i = 1; i <= 6; i++) {
            x.pass(i);
            Due.due("23: states", x.count(11), Math.min(i, 4));
        }
        x.type('t');
        Due.due("23: type is no change", x.count(11), 4);
        for (int left = 3, time = 15; left >= 0; left--) {
            Due.due("23: undo()", x.undo(), left);
            Due.due("23: the time", x.count(4), time);
            time -= left + 2;
        }
        Due.due("23: the oldest one was dropped", x.undo(), NOT);
        Due.due("23: the time", x.count(4), 3);
        Due.due("23: the text stays", x.count(12), 1);
        x.pass(7);
        x.pass(8);
        Due.due("23: one is undone", x.undo(), 1);
        x.pass(9);
        Due.due("23: 3, 7, 9", x.count(4), 19);
        Due.due("23: undo again", x.undo(), 1);
        Due.due("23: 3, 7", x.count(4), 10);
        Due.due("23: to the last", x.undo(), 0);
        Due.due("23: 3", x.count(4), 3);
        Due.due("23: none", x.undo(), NOT);
    }

    private static void undoOfEachChange() {
        BatchCellars x = plant();
        x.cleaning(0, 1, 7);
        x.undo();
        Due.due("23: cleaning", x.cleaning(0, 1, 5), 5);
        x.set(0, 99);
        x.undo();
        Due.due("23: set", x.count(20), 10);
        x.recipe(2);
        x.undo();
        Due.due("23: recipe", x.count(0), 2);
        x.stage(0, 0, 5, 0, 9);
        x.undo();
        Due.due("23: stage", x.stageOf(0, 1, 0), NONE);
        x.vessel(0, 5);
        x.undo();
        Due.due("23: vessel", x.count(1), 3);
        x.line(7, 5);
        x.undo();
        Due.due("23: line", x.count(2), 1);
        x.begin(1, 50, 0);
        x.undo();
        Due.due("23: begin", x.vesselOf(0, 2), NONE);
        Due.due("23: begin, the product", x.vesselOf(0, 3), NONE);
        Due.due("23: begin, the mass", x.count(5), 0);
        x.begin(1, 50, 0);
        x.pass(5);
        x.move(0, 2);
        x.undo();
        Due.due("23: move", x.batchOf(0, 3), 0);
        Due.due("23: move, the line", x.lineOf(0, 2) + x.lineOf(0, 3), 0);
        x.discard(0);
        x.undo();
        Due.due("23: discard", x.batchOf(0, 1), 50);
        Due.due("23: discard, lost", x.count(7), 0);
        x.pass(20);
        x.undo();
        Due.due("23: pass", x.batchOf(0, 7), 0);
        Due.due("23: pass, spoiled", x.count(10), 0);
        x.pass(20);
        x.begin(0, 30, 1);
        x.pass(15);
        x.end(1);
        x.undo();
        Due.due("23: end", x.batchOf(1, 1), 30);
        Due.due("23: end, off-grade", x.count(30), 0);
        x.end(1);
        x.begin(0, 60, 1);
        x.blend(1, 6);
        x.undo();
        Due.due("23: blend", x.batchOf(1, 1), 60);
        Due.due("23: blend, the store", x.count(30), 30);
        Due.due("23: blend, in all", x.batchOf(1, 8), 0);
    }

    private static void typing() {
        BatchCellars x = new BatchCellars();
        Due.due("24: 31", x.type(31), BAD);
        Due.due("24: 127", x.type(127), BAD);
        Due.due("24: -1", x.type(-1), BAD);
        Due.due("24: extreme", x.type(Integer.MAX_VALUE), BAD);
        Due.due("24: 't' of another plane", x.type(0x10000 + 't'), BAD);
        Due.due("24: 32", x.type(32), 1);
        Due.due("24: 126", x.type(126), 2);
        for (int i = 3; i <= 80; i++) {
            Due.due("24: type('a')", x.type('a'), i);
        }
        Due.due("24: an 81st", x.type('a'), FULL);
        Due.due("24: a bad 81st", x.type(31), BAD);
        Due.due("24: the length", x.count(12), 80);
        Due.due("24: no changes", x.count(11), 0);
        Due.due("25: clearText()", x.clearText(), 80);
        Due.due("25: empty", x.clearText(), 0);
        Due.due("25: the length", x.count(12), 0);
        Due.due("25: no fault of an empty text", x.fault(0), NONE);
        Due.due("25: from the first place again", x.type('t'), 1);
        Due.due("25: no changes", x.count(11), 0);
    }

    /** Of a new object each time: one is used for 512 calls at most. */
    private static void dueFault(String text, int place, int reason) {
        BatchCellars x = plant();
        Due.type(x, text);
        Due.due("26: place in " + text, x.fault(0), place);
        Due.due("26: reason in " + text, x.fault(1), reason);
        Due.due("26: what -1", x.fault(-1), BAD);
        Due.due("26: what 2", x.fault(2), BAD);
        Due.due("26: what extreme", x.fault(Integer.MIN_VALUE), BAD);
        int states = x.count(11);
        if (reason > 0) {
            Due.due("27: play() of " + text, x.play(), NOT);
            Due.due("27: no change by " + text, x.count(11), states);
            Due.due("27: no time by " + text, x.count(4), 0);
        }
        Due.due("26: the text stays", x.clearText(), text.length());
    }

    private static void forms() {
        String[] ill = {";", " ", " t1;", "t", "t;", "t1", "t 1;", "t1 ;", "t1,;", "t1,2;", "t-1;",
            "t+1;", "T1;", "q1;", "1;", "b", "b0", "b0;", "b0,", "b0,9", "b0,9;", "b0,9,", "b0,9,0",
            "b,9,0;", "b0,,0;", "b0,9,;", "b0;9;0;", "b0.9.0;", "b0,9,0,;", "b0,9,0,0;", "m0;",
            "m0,1", "m,1;", "m0,1,2;", "e;", "e0", "e0,0;", "x;", "x0", "x0,0;", "o0;", "o0,", "o0,1",
            "o0,1,1;", "o,1;", "v0;", "~", "t1:", "t/;", "bb0,9,0;"};
        for (String text : ill) {
            dueFault(text, 0, 1);
            dueFault("t1;" + text, 3, 1);
            dueFault("t1;b0,9,0;" + text + "t1;", 10, 1);
        }
        dueFault("t1;;", 3, 1);
        dueFault("t1;t1", 3, 1);
        dueFault("t1;t1; ", 6, 1);
    }

    private static void numbers() {
        dueFault("t1;", NONE, NONE);
        dueFault("t001;", NONE, NONE);
        dueFault("t0001;", 0, 1);
        dueFault("t999;", NONE, NONE);
        dueFault("t1000;", 0, 1);
        dueFault("b000,099,001;", NONE, NONE);
        dueFault("b0000,99,1;", 0, 1);
        dueFault("b0,0099,1;", 0, 1);
        dueFault("b0,99,0001;", 0, 1);
        dueFault("t010;t09;", NONE, NONE);
        BatchCellars x = plant();
        Due.type(x, "t010;t09;t200;");
        x.play();
        Due.due("27: the minutes", x.count(4), 219);
    }

    private static void reasons() {
        dueFault("t0;", 0, 2);
        dueFault("t000;", 0, 2);
        dueFault("b2,9,0;", 0, 2);
        dueFault("b0,0,0;", 0, 2);
        dueFault("b0,9,3;", 0, 2);
        dueFault("b0,9,999;", 0, 2);
        dueFault("m0,0;", 0, 2);
        dueFault("e0;", 0, 2);
        dueFault("x0;", 0, 2);
        dueFault("x6;", 0, 2);
        dueFault("o0,1;", 0, 2);
        dueFault("b0,9,0;o0,0;", 7, 2);
        dueFault("b0,9,0;m0,3;", 7, 2);
        dueFault("b0,9,0;m0,2;", 7, 3);
        dueFault("b0,9,2;", 0, 3);
        dueFault("b0,100,0;", 0, 3);
        dueFault("b0,9,0;b0,9,0;", 7, 3);
        dueFault("b0,9,0;e0;", 7, 3);
        dueFault("b0,9,0;o0,1;", 7, 3);
        dueFault("b0,9,0;x0;x0;", 10, 2);
        dueFault("b1,9,0;t5;m0,2;m0,1;", 15, 3);
        dueFault("b1,9,0;t5;m0,2;t6;e0;", NONE, NONE);
        BatchCellars y = new BatchCellars();
        for (int i = 0; i < 30; i++) {
            y.pass(999);
        }
        Due.type(y, "t30;t1;");
        Due.due("26: up to 30000, then above", y.fault(0), 4);
        Due.due("26: LIMIT_REACHED", y.fault(1), 3);
        Due.due("27: nothing is done", y.play() + y.count(4), NOT + 29970);
    }

    private static void firstFault() {
        dueFault("t0;q;", 0, 2);
        dueFault("e0;t1", 0, 2);
        dueFault("b0,9,0;e0;;", 7, 3);
        dueFault("b0,9,0;t5;e0;e0;", 13, 2);
        dueFault("b0,9,0;t5;e0;b0,9,0;m0,1;", 20, 3);
        BatchCellars x = plant();
        Due.type(x, "b0,9,0;");
        Due.due("26: possible", x.fault(0), NONE);
        x.begin(0, 5, 0);
        Due.due("26: no more", x.fault(1), 3);
        x.undo();
        Due.due("26: again", x.fault(1), NONE);
        Due.retype(x, "q;");
        Due.due("26: a fault", x.fault(1), 1);
        x.clearText();
        Due.due("26: none when it is emptied", x.fault(1), NONE);
        Due.due("27: no commands when it is emptied", x.play(), 0);
        StringBuilder full = new StringBuilder();
        for (int i = 0; i < 20; i++) {
            full.append("t01;");
        }
        dueFault(full.toString(), NONE, NONE);
        dueFault(full.substring(0, 77) + "t1;", 76, 1);
    }

    private static void playing() {
        BatchCellars x = plant();
        Due.type(x, "b0,90,0;t15;e0;b0,90,1;o0,9;b1,50,0;t10;m1,2;x0;");
        Due.due("27: no fault", x.fault(0), NONE);
        Due.due("27: nothing is done by fault", x.count(4), 0);
        Due.due("27: play()", x.play(), 9);
        Due.due("27: the text stays", x.count(12), 48);
        Due.due("27: the time", x.count(4), 25);
        Due.due("27: the off-grade", x.count(30), 81);
        Due.due("27: lost", x.count(7), 99);
        Due.due("27: batch 1", x.batchOf(1, 3), 2);
        Due.due("27: its mass", x.batchOf(1, 1), 50);
        Due.due("27: its work begins", x.batchOf(1, 4), 26);
        Due.due("27: one spoiled", x.count(10), 1);
        Due.due("27: not this one", x.batchOf(1, 7), 0);
        Due.due("27: the cleaning of 0", x.vesselOf(0, 4), 5);
        Due.due("27: states", x.count(11), 4);
        Due.due("27: undone at once", x.undo(), 3);
        Due.due("27: the time", x.count(4), 0);
        Due.due("27: no batch", x.count(3), 0);
        Due.due("27: the text stays", x.count(12), 48);
        Due.due("27: once more", x.play(), 9);
        Due.due("27: now a fault", x.fault(0), 40);
        Due.due("27: and its reason", x.fault(1), 3);
    }

    private static void playIsOneChange() {
        BatchCellars x = new BatchCellars();
        Due.due("27: no commands", x.play(), 0);
        Due.due("27: one change all the same", x.count(11), 1);
        Due.type(x, "t1;t2;t3;t4;t5;t6;");
        Due.due("27: six commands", x.play(), 6);
        Due.due("27: one change", x.count(11), 2);
        Due.due("27: the time", x.count(4), 21);
        Due.due("27: undo", x.undo(), 1);
        Due.due("27: the time", x.count(4), 0);
        Due.due("27: undo", x.undo(), 0);
        x.clearText();
        Due.type(x, "b0,9,0;");
        Due.due("27: a fault", x.play(), NOT);
        Due.due("27: no change", x.undo(), NOT);
    }
}
