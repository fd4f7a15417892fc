/** Promises 35 to 41: spots, sheets. */
public final class SheetsTest {
    private static void hold() {
        OysterSecrets x = new OysterSecrets();
        x.oyster(0, 0);
        x.oyster(0, 0);
        Due.due("35: hold(0, 1)", x.hold(0, 1), 1);
        Due.due("35: hold(9, 0)", x.hold(9, 0), 1);
        Due.due("35: hold(5, -1)", x.hold(5, -1), 1);
        Due.due("35: count(7)", x.count(7), 2);
        for (int spot : new int[] {-1, 10, Integer.MIN_VALUE, Integer.MAX_VALUE}) {
            Due.due("35: hold of no spot", x.hold(spot, 0), Due.BEYOND);
            Due.due("35: hold of no spot", x.hold(spot, -1), Due.BEYOND);
        }
        for (int oyster : new int[] {-2, 2, 7, 8, Integer.MIN_VALUE, Integer.MAX_VALUE}) {
            Due.due("35: hold of no oyster", x.hold(0, oyster), Due.BEYOND);
        }
        Due.due("35: as(0, 0)", x.as(0, 0), 1);
        Due.due("35: hold(0, -1)", x.hold(0, -1), 1);
        Due.due("35: as(0, 0)", x.as(0, 0), Due.MISSING);
        Due.due("35: count(7)", x.count(7), 1);
    }

    private static void as() {
        OysterSecrets x = new OysterSecrets();
        // Of each kind, as a set, what it can be told as.
        int[] under = {1, 1 + 2, 1 + 4, 1 + 4 + 8, 1 + 4 + 8 + 16, 1 + 32, 1 + 2 + 64};
        for (int k = 0; k < 7; k++) {
            x.oyster(k, 0);
            x.hold(k + 2, k);
        }
        for (int k = 0; k < 7; k++) {
            for (int as = 0; as < 7; as++) {
                int want = (under[k] >> as & 1) == 1 ? k : Due.KIND;
                Due.due("36: one of " + k + " as one of " + as, x.as(k + 2, as), want);
            }
        }
        Due.due("36: as(0, 0)", x.as(0, 0), Due.MISSING);
        Due.due("36: as(0, 7)", x.as(0, 7), Due.BEYOND);
        Due.due("36: as(2, -1)", x.as(2, -1), Due.BEYOND);
        Due.due("36: as(2, 7)", x.as(2, 7), Due.BEYOND);
        Due.due("36: as(-1, 0)", x.as(-1, 0), Due.BEYOND);
        Due.due("36: as(10, 0)", x.as(10, 0), Due.BEYOND);
        x.change(0, 0, 6);
        Due.due("36: its kind is another now", x.as(2, 1), 0);
    }

    private static void sheet() {
        OysterSecrets x = new OysterSecrets();
        Due.due("37: sheet(0, 8, 0)", x.sheet(0, 8, 0), 0);
        Due.due("37: it is there", x.load(0), 0);
        Due.due("37: sheet(3, 32, 40)", x.sheet(3, 32, 40), 40);
        Due.due("37: sheet(3, 16, 5)", x.sheet(3, 16, 5), 5);
        Due.due("37: sheet(3, 0, 5)", x.sheet(3, 0, 5), 0);
        Due.due("37: it is missing", x.load(3), Due.MISSING);
        for (int bits : new int[] {0, 8, 16, 32}) {
            Due.due("37: n of -1", x.sheet(0, bits, -1), Due.SIZE);
            Due.due("37: n of MIN", x.sheet(0, bits, Integer.MIN_VALUE), Due.SIZE);
            Due.due("37: n of 41", x.sheet(0, bits, 41), Due.BEYOND);
            Due.due("37: n of MAX", x.sheet(0, bits, Integer.MAX_VALUE), Due.BEYOND);
        }
        for (int bits : new int[] {-8, 1, 7, 9, 24, 64, Integer.MIN_VALUE}) {
            Due.due("37: other bits", x.sheet(0, bits, 1), Due.BEYOND);
            Due.due("37: other bits, n of -1", x.sheet(0, bits, -1), Due.BEYOND);
        }
        Due.due("37: sheet(-1, 8, 1)", x.sheet(-1, 8, 1), Due.BEYOND);
        Due.due("37: sheet(4, 8, -1)", x.sheet(4, 8, -1), Due.BEYOND);
        Due.due("37: nothing changes", x.load(0), 0);
        Due.sheet(x, 1, 5, 6);
        x.sheet(1, 32, 3);
        Due.due("37: all are 0 again", x.load(1) + x.bedOf(0, 0) + x.bedOf(1, 0), 3);
    }

    private static void write() {
        OysterSecrets x = new OysterSecrets();
        Due.due("38: of a missing one", x.write(0, 0, 1), Due.MISSING);
        Due.due("38: no such number of a missing one", x.write(0, 99, 1), Due.MISSING);
        Due.due("38: write(-1, 0, 1)", x.write(-1, 0, 1), Due.BEYOND);
        Due.due("38: write(4, 0, 1)", x.write(4, 0, 1), Due.BEYOND);
        x.sheet(0, 8, 2);
        Due.due("38: write(0, -1, 1)", x.write(0, -1, 1), Due.BEYOND);
        Due.due("38: write(0, 2, 1)", x.write(0, 2, 1), Due.BEYOND);
        x.oyster(0, 0);
        x.oyster(0, 0);
        x.change(1, 3, 127);
        Due.due("38: write(0, 1, 127)", x.write(0, 1, 127), 1);
        Due.due("38: 127", x.judge(0), 0);
        x.write(0, 1, 256 * 5 + 127);
        Due.due("38: the lowest 8 bits", x.judge(0), 0);
        x.change(1, 3, 128);
        x.write(0, 1, 128);
        Due.due("38: 128 is -128", x.judge(0), 2);
        x.sheet(0, 16, 2);
        x.write(0, 1, 128);
        Due.due("38: not in 16 bits", x.judge(0), 0);
        x.write(0, 1, 65536 + 128);
        Due.due("38: the lowest 16 bits", x.judge(0), 0);
        x.sheet(0, 32, 2);
        x.write(0, 1, 65536 + 128);
        Due.due("38: all of 32 bits", x.judge(0), 2);
        x.sheet(0, 16, 1);
        x.write(0, 0, 65535);
        Due.due("38: 65535 of 16 bits is -1, any", x.kinds(0, 0), 127);
        x.sheet(0, 32, 1);
        x.write(0, 0, 65535);
        Due.due("38: of 32 bits it isn't", x.kinds(0, 0), 0);
        x.write(0, 0, -1);
        Due.due("38: -1 is", x.kinds(0, 0), 127);
    }

    /** Whether a sheet's first numbers are these (at most six, 0 to 999). */
    private static void holds(String why, OysterSecrets x, int s, int... wants) {
        x.image();
        Due.due(why + ": how many", x.load(s), wants.length);
        for (int i = 0; i < wants.length; i++) {
            Due.due(why + ": number " + i, x.bedOf(i, 0), wants[i]);
        }
        x.undo();
        x.tear();
    }

    private static void copy() {
        OysterSecrets x = new OysterSecrets();
        Due.sheet(x, 0, 1, 2, 3, 4, 5);
        Due.sheet(x, 1, 11, 12, 13, 14);
        Due.due("39: copy(0, 1, 1, 2, 2)", x.copy(0, 1, 1, 2, 2), 2);
        holds("39: two of them", x, 1, 11, 12, 2, 3);
        Due.due("39: forth in itself", x.copy(0, 0, 0, 1, 4), 4);
        holds("39: forth in itself", x, 0, 1, 1, 2, 3, 4);
        Due.due("39: back in itself", x.copy(0, 2, 0, 0, 3), 3);
        holds("39: back in itself", x, 0, 2, 3, 4, 3, 4);
        Due.due("39: none", x.copy(0, 5, 1, 4, 0), 0);
        Due.due("39: all", x.copy(1, 0, 0, 1, 4), 4);
        holds("39: all", x, 0, 2, 11, 12, 2, 3);
        int[][] beyond = {{0, -1, 1, 0, 1}, {0, 0, 1, -1, 1}, {0, 0, 1, 0, -1}, {0, 4, 1, 0, 2}, {0, 0, 1, 3, 2},
            {0, 6, 1, 0, 0}, {0, 0, 1, 5, 0}, {0, 0, 1, 0, 5}, {0, Integer.MAX_VALUE, 1, 0, Integer.MAX_VALUE},
            {0, 1, 1, 0, Integer.MAX_VALUE}, {0, 0, 1, 0, Integer.MIN_VALUE}, {-1, 0, 1, 0, 1}, {0, 0, 4, 0, 1},
            {2, 0, 4, 0, 1}, {-1, 0, 3, 0, 1}};
        for (int[] b : beyond) {
            Due.due("39: beyond", x.copy(b[0], b[1], b[2], b[3], b[4]), Due.BEYOND);
        }
        Due.due("39: to a missing one", x.copy(0, -1, 2, 0, 1), Due.MISSING);
        Due.due("39: of a missing one", x.copy(2, 0, 0, 0, -1), Due.MISSING);
        x.sheet(2, 16, 9);
        Due.due("39: of other bits", x.copy(0, 0, 2, 0, 1), Due.KIND);
        Due.due("39: of other bits, and beyond", x.copy(2, -1, 0, 0, 99), Due.KIND);
        holds("39: nothing changes", x, 0, 2, 11, 12, 2, 3);
        holds("39: nothing changes", x, 1, 11, 12, 2, 3);
    }

    private static void load() {
        OysterSecrets x = new OysterSecrets();
        Due.due("40: load(-1)", x.load(-1), Due.BEYOND);
        Due.due("40: load(4)", x.load(4), Due.BEYOND);
        Due.due("40: load(0)", x.load(0), Due.MISSING);
        Due.sheet(x, 0, 0, 999, 7, 1000, 5);
        Due.due("40: up to 1000", x.load(0), 3);
        Due.due("40: bed 0", x.bedOf(0, 0), 0);
        Due.due("40: bed 1", x.bedOf(1, 0), 999);
        Due.due("40: bed 2", x.bedOf(2, 0), 7);
        Due.due("40: bed 3", x.bedOf(3, 0), 100);
        Due.due("40: bed 4", x.bedOf(4, 0), 100);
        Due.sheet(x, 1, 3, -1, 5);
        Due.due("40: up to -1", x.load(1), 1);
        Due.due("40: bed 0", x.bedOf(0, 0), 3);
        Due.sheet(x, 2, 1, 2, 3, 4, 5, 6, 7, 8);
        Due.due("40: as many as beds", x.load(2), 6);
        Due.due("40: bed 5", x.bedOf(5, 0), 6);
        Due.sheet(x, 2, 1000);
        Due.due("40: none", x.load(2), 0);
        Due.sheet(x, 2);
        Due.due("40: of none", x.load(2), 0);
    }

    private static void judge() {
        OysterSecrets x = new OysterSecrets();
        Due.due("41: judge(-1)", x.judge(-1), Due.BEYOND);
        Due.due("41: judge(4)", x.judge(4), Due.BEYOND);
        Due.due("41: judge(0)", x.judge(0), Due.MISSING);
        x.oyster(0, 0);
        x.oyster(0, 0);
        x.oyster(0, 0);
        x.change(0, 3, 5);
        x.change(1, 3, 6);
        Due.sheet(x, 0, 5, 6, 0);
        Due.due("41: so", x.judge(0), 0);
        Due.sheet(x, 0, 5, 6);
        Due.due("41: so, of two", x.judge(0), 0);
        Due.sheet(x, 0);
        Due.due("41: so, of none", x.judge(0), 0);
        Due.sheet(x, 0, 5, 6, 0, 0);
        Due.due("41: no oyster 3", x.judge(0), 4);
        Due.sheet(x, 0, 4, 7, 0);
        Due.due("41: not so at 0", x.judge(0), 1);
        Due.sheet(x, 0, 5, -1, 1);
        Due.due("41: -1 isn't any here", x.judge(0), 2);
        Due.due("41: nothing changes", x.now(1), 11);
    }

    public static void main(String[] args) {
        hold();
        as();
        sheet();
        write();
        copy();
        load();
        judge();
        Due.end();
    }
}
