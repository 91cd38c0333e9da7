/**
 * Calls with any arguments in any state: none throws, and none answers what no call may answer.
 */
public final class WildTest {
    private static final int[] WILD = {Integer.MIN_VALUE, Integer.MIN_VALUE + 1, -65536, -1, 100,
        999, 1000, 30001, 65536, 1 << 30, Integer.MAX_VALUE - 1, Integer.MAX_VALUE};
    private static final String SIGNS = "bmexot0123456789,;";
    private static final int CALLS = 26;

    private static long seed;
    private static final int[] good = new int[CALLS];

    public static void main(String[] args) {
        for (int run = 0; run < 1000; run++) {
            seed = run;
            run(run);
        }
        for (int call = 0; call < CALLS; call++) {
            Due.due("call " + call + " is possible at times", good[call] > 0 ? 1 : 0, 1);
        }
        Due.close();
    }

    private static void run(int run) {
        BatchCellars x = new BatchCellars();
        opening(x);
        for (int step = 13; step < 512; step++) {
            int call = number(CALLS);
            int answer = answer(x, call);
            String place = "run " + run + ", step " + step + ", call " + call;
            Due.due(place + " answered " + answer, answer >= -4 ? 1 : 0, 1);
            good[call] += answer >= 0 ? 1 : 0;
        }
    }

    /** Without it few calls at random would be possible. */
    private static void opening(BatchCellars x) {
        x.recipe(0);
        x.stage(0, 0, 1, 0, 2);
        x.stage(0, 0, 1, 0, 2);
        x.vessel(0, 999);
        x.vessel(0, 999);
        x.vessel(0, 999);
        x.line(7, 99);
        x.set(1, 50);
        x.recipe(0);
        x.stage(1, 0, 1, 0, 2);
        x.begin(1, 999, 0);
        x.pass(9);
        x.end(0);
    }

    private static int number(int bound) {
        seed = seed * 6364136223846793005L + 1442695040888963407L;
        return (int) ((seed >>> 33) % bound);
    }

    private static int any() {
        int odds = number(40);
        return odds == 0 ? WILD[number(WILD.length)] : odds < 4 ? number(64) : number(5);
    }

    private static int sign() {
        return number(20) == 0 ? any() : SIGNS.charAt(number(SIGNS.length()));
    }

    private static int answer(BatchCellars x, int call) {
        switch (call) {
            case 0:
                return x.recipe(any());
            case 1:
                return x.stage(any(), any(), any(), any(), any());
            case 2:
                return x.vessel(any(), any());
            case 3:
                return x.line(any(), any());
            case 4:
                return x.cleaning(any(), any(), any());
            case 5:
                return x.stageOf(any(), any(), any());
            case 6:
                return x.begin(any(), any() + any(), any());
            case 7:
                return x.move(any(), any());
            case 8:
                return x.end(any());
            case 9:
                return x.discard(any());
            case 10:
                return x.blend(any(), any());
            case 11:
                return x.pass(any());
            case 12:
                return x.set(any(), any());
            default:
                return told(x, call);
        }
    }

    private static int told(BatchCellars x, int call) {
        switch (call) {
            case 13:
                return x.batchOf(any(), any());
            case 14:
                return x.vesselOf(any(), any());
            case 15:
                return x.lineOf(any(), any());
            case 16:
                return x.count(any());
            case 17:
                return x.targets(any());
            case 18:
                return x.quickest(any(), any());
            case 19:
                return x.soonest(any());
            case 20:
                return x.urgent(any());
            case 21:
                return x.undo();
            case 22:
                return x.type(sign());
            case 23:
                return x.clearText();
            case 24:
                return x.fault(any());
            default:
                return x.play();
        }
    }
}
