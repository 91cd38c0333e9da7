import java.util.Arrays;

/** All that an object tells. */
final class Told {
    private Told() {
    }

    /** The object is not for use behind it: the table of cleaning is read by changing it. */
    static int[] by(BatchCellars x) {
        int[] row = new int[310];
        int n = 0;
        row[n++] = x.count(11);
        for (int what = 0; what < 34; what++) {
            row[n++] = what == 11 ? 0 : x.count(what);
        }
        row[n++] = x.fault(0);
        row[n++] = x.fault(1);
        for (int i = 0; i < 4; i++) {
            for (int stage = 0; stage < 4; stage++) {
                for (int what = 0; what < 5; what++) {
                    row[n++] = x.stageOf(i, stage, what);
                }
            }
        }
        for (int i = 0; i < 6; i++) {
            for (int what = 0; what < 5; what++) {
                row[n++] = x.vesselOf(i, what);
            }
            for (int what = 0; what < 11; what++) {
                row[n++] = x.batchOf(i, what);
            }
            for (int what = 0; i < 3 && what < 4; what++) {
                row[n++] = x.lineOf(i, what);
            }
            row[n++] = x.targets(i);
            row[n++] = x.quickest(i, 0);
            row[n++] = x.quickest(i, 1);
            row[n++] = x.soonest(i);
            row[n++] = x.urgent(i);
        }
        for (int from = 0; from < 4; from++) {
            for (int to = 0; to < 4; to++) {
                row[n++] = x.cleaning(from, to, 0);
            }
        }
        return Arrays.copyOf(row, n);
    }

    /** All but the number of states in the history. */
    static int[] plantOf(int[] told) {
        return Arrays.copyOfRange(told, 1, told.length);
    }

    static void same(String place, int[] one, int[] other) {
        int wrong = 0;
        for (int i = 0; i < one.length; i++) {
            if (one[i] != other[i] && wrong++ == 0) {
                Due.due(place + ": row " + i, other[i], one[i]);
            }
        }
        Due.due(place, wrong, 0);
    }
}
