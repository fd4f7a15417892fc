import java.util.Arrays;

/** The edges of spots and sheets: those of the document's Terms 3, and of promises 35 to 41. */
public final class EdgeSheetsTest {
    private static final int LAYERS = 3;

    /** "SPOTS 0 to 9 hold an OYSTER or nothing (at first)." */
    private static void tenSpots() {
        Edge.within("35: a spot", Edge::busy, (x, spot) -> x.hold(spot, 3), 0, 9);
        Edge.within("35: a spot, for nothing", Edge::busy, (x, spot) -> x.hold(spot, -1), 0, 9);
        Edge.Maker held = () -> {
            OysterSecrets x = Edge.busy();
            for (int spot = 0; spot < 10; spot++) {
                x.hold(spot, 1);
            }
            return x;
        };
        Edge.within("36: a spot", held, (x, spot) -> x.as(spot, 0), 0, 9);
        for (int spot = 0; spot < 10; spot++) {
            Due.due("36: nothing at first in " + spot, new OysterSecrets().as(spot, 0), Due.MISSING);
        }
        Due.due("45: none holds something at first", new OysterSecrets().count(7), 0);
        Due.due("45: all ten do", held.make().count(7), 10);
    }

    /** Promise 35: "A SPOT holds an OYSTER, or nothing (-1): 1." */
    private static void heldOysters() {
        Edge.within("35: an oyster of seven, or nothing", Edge::busy, (x, i) -> x.hold(4, i), -1, 6);
        Edge.within("35: an oyster of eight, or nothing", Edge::full, (x, i) -> x.hold(4, i), -1, 7);
        Edge.within("35: nothing alone, with no oysters", Edge::fresh, (x, i) -> x.hold(4, i), -1, -1);
        OysterSecrets x = Edge.busy();
        Due.due("35: what was held", x.as(0, 0), 6);
        Due.due("35: another", x.hold(0, 1), 1);
        Due.due("35: it is held", x.as(0, 0), 1);
        Due.due("35: no such one", x.hold(0, 7), Due.BEYOND);
        Due.due("35: it is held", x.as(0, 0), 1);
        Due.due("35: nothing", x.hold(0, -1), 1);
        Due.due("35: nothing is held", x.as(0, 0), Due.MISSING);
        Due.due("35: nothing, again", x.hold(0, -1), 1);
        Due.due("35: spots that hold something", x.count(7), 2);
    }

    /** Promise 36: "one of a kind (0 to 6)" */
    private static void asKinds() {
        Edge.within("36: a kind", Edge::busy, (x, kind) -> x.as(9, kind), 0, 6);
        Edge.refused("36: no kind, of a spot with nothing", Edge::busy, x -> x.as(1, 7), Due.BEYOND);
        Edge.changesNothing("36: as", Edge::busy, x -> x.as(2, 5));
    }

    /** Promise 36: "KIND: it isn't of that kind, nor of one under it": each by each */
    private static void asOneUnderIt() {
        String[] under = {"1000000", "1100000", "1010000", "1011000", "1011100", "1000010", "1100001"};
        for (int kind = 0; kind < 7; kind++) {
            for (int as = 0; as < 7; as++) {
                OysterSecrets x = new OysterSecrets();
                x.oyster(0, 0);
                x.oyster(kind, 0);
                x.hold(7, 1);
                int want = under[kind].charAt(as) == '1' ? 1 : Due.KIND;
                Due.due("36: one of kind " + kind + " as one of kind " + as, x.as(7, as), want);
                Due.due("36: KIND is counted", x.status(2), want == 1 ? 0 : 1);
            }
        }
        Edge.refused("36: a dear one is no black one", Edge::busy, x -> x.as(2, 1), Due.KIND);
    }

    /** Promise 36: "MISSING: it holds nothing." */
    private static void asOfNothing() {
        Edge.refused("36: of nothing", Edge::busy, x -> x.as(1, 0), Due.MISSING);
        Edge.refused("36: of nothing, with no oysters", Edge::fresh, x -> x.as(9, 6), Due.MISSING);
    }

    /** "SHEETS 0 to 3" */
    private static void fourSheets() {
        Edge.Maker there = () -> {
            OysterSecrets x = Edge.busy();
            x.sheet(3, 8, 1);
            return x;
        };
        Edge.within("37: a sheet", Edge::busy, (x, s) -> x.sheet(s, 8, 1), 0, 3);
        Edge.within("38: a sheet", there, (x, s) -> x.write(s, 0, 1), 0, 3);
        Edge.within("39: a sheet", there, (x, s) -> x.copy(s, 0, s, 0, 1), 0, 3);
        Edge.within("40: a sheet", there, (x, s) -> x.load(s), 0, 3);
        Edge.within("41: a sheet", there, (x, s) -> x.judge(s), 0, 3);
    }

    /** "or MISSING (at first)" */
    private static void missingSheets() {
        for (int s = 0; s < 4; s++) {
            int sheet = s;
            Edge.refused("38: missing at first", Edge::fresh, x -> x.write(sheet, 0, 1), Due.MISSING);
            Edge.refused("39: missing at first", Edge::fresh, x -> x.copy(sheet, 0, sheet, 0, 0), Due.MISSING);
            Edge.refused("40: missing at first", Edge::fresh, x -> x.load(sheet), Due.MISSING);
            Edge.refused("41: missing at first", Edge::fresh, x -> x.judge(sheet), Due.MISSING);
        }
    }

    /** Promise 37: "of 8, 16 or 32 bits; bits 0: it is MISSING"; "BEYOND: .. other bits" */
    private static void bits() {
        for (int bits : new int[] {0, 8, 16, 32}) {
            Edge.taken("37: bits " + bits, Edge::busy, x -> x.sheet(0, bits, 5));
            Due.due("37: bits " + bits, Edge.busy().sheet(0, bits, 5), bits == 0 ? 0 : 5);
        }
        int[] others = {Integer.MIN_VALUE, -32, -16, -8, -1, 1, 7, 9, 15, 17, 24, 31, 33, 64, Integer.MAX_VALUE};
        for (int bits : others) {
            Edge.refused("37: bits " + bits, Edge::busy, x -> x.sheet(0, bits, 5), Due.BEYOND);
            Edge.refused("37: bits " + bits + ", n below 0", Edge::busy, x -> x.sheet(0, bits, -1), Due.BEYOND);
        }
    }

    /** Promise 37: "SIZE: n is below 0 (also with bits 0). BEYOND: n is above 40 (also with bits 0)." */
    private static void sizes() {
        for (int bits : new int[] {0, 8, 16, 32}) {
            for (int n : new int[] {0, 1, 39, 40}) {
                Due.due("37: n of " + n + " with bits " + bits, Edge.busy().sheet(1, bits, n), bits == 0 ? 0 : n);
            }
            for (int n : new int[] {-1, -2, Integer.MIN_VALUE}) {
                Edge.refused("37: n of " + n + " with bits " + bits, Edge::busy, x -> x.sheet(1, bits, n), Due.SIZE);
            }
            for (int n : new int[] {41, 42, Integer.MAX_VALUE}) {
                Edge.refused("37: n of " + n + " with bits " + bits, Edge::busy, x -> x.sheet(1, bits, n), Due.BEYOND);
            }
        }
    }

    /** Promise 37: "n numbers, all 0": also where other numbers stood; a sheet of none isn't MISSING */
    private static void allZero() {
        OysterSecrets x = new OysterSecrets();
        for (int bits : new int[] {8, 16, 32}) {
            x.sheet(0, bits, 40);
            for (int i = 0; i < 40; i++) {
                x.write(0, i, 77);
            }
            x.sheet(0, bits, 3);
            x.sheet(0, bits, 40);
            x.sheet(1, bits, 40);
            int i = 0;
            while (i < 34) {
                x.load(0);
                Due.due("37: number " + i + " of " + bits + " bits", x.bedOf(0, 0) + x.bedOf(5, 0), 0);
                x.bed(0, 0, 7);
                i += 6;
                x.copy(0, i, 0, 0, 40 - i);
            }
        }
        Due.due("37: of none", x.sheet(2, 8, 0), 0);
        Due.due("37: it is there", x.load(2), 0);
        Due.due("37: with bits 0 it is missing", x.sheet(2, 0, 0), 0);
        Due.due("37: it isn't there", x.load(2), Due.MISSING);
        Due.due("37: again", x.sheet(2, 0, 40), 0);
        Due.due("37: and is there again", x.sheet(2, 32, 40), 40);
    }

    /** Promise 38: "BEYOND: no such number.": the first and the last of a row; of a row of none, none */
    private static void writtenNumbers() {
        Edge.within("38: a number of 3", Edge::busy, (x, i) -> x.write(0, i, 1), 0, 2);
        Edge.within("38: a number of 8", Edge::busy, (x, i) -> x.write(2, i, 1), 0, 7);
        Edge.Maker ends = () -> {
            OysterSecrets x = Edge.busy();
            x.sheet(0, 8, 40);
            x.sheet(1, 8, 0);
            return x;
        };
        Edge.within("38: a number of 40", ends, (x, i) -> x.write(0, i, 1), 0, 39);
        Edge.refused("38: a number of none", ends, x -> x.write(1, 0, 1), Due.BEYOND);
    }

    /** What load() brings of a number, or -1, if it isn't 0 to 999. */
    private static int loaded(int bits, int v) {
        OysterSecrets x = new OysterSecrets();
        x.sheet(0, bits, 1);
        Due.due("38: write(0, 0, " + v + ")", x.write(0, 0, v), 1);
        return x.load(0) == 1 ? x.bedOf(0, 0) : -1;
    }

    /** Whether it is told as -1, by fits() that takes it as any. */
    private static boolean isMinusOne(int bits, int v) {
        OysterSecrets x = new OysterSecrets();
        x.oyster(0, 0);
        x.sheet(0, bits, 1);
        x.write(0, 0, v);
        return x.load(0) == 0 && x.fits(0, 0) == 99;
    }

    /** "(told with their sign: of 8 bits 255 is -1)", and "becomes v (its lowest bits)" */
    private static void signsOf8Bits() {
        int[][] rows = {{0, 0}, {127, 127}, {128, -1}, {200, -1}, {255, -1}, {256, 0}, {257, 1}, {383, 127}, {384, -1},
            {-1, -1}, {-128, -1}, {-129, 127}, {-256, 0}, {Integer.MAX_VALUE, -1}, {Integer.MIN_VALUE, 0}};
        for (int[] row : rows) {
            Due.due("38: " + row[0] + " of 8 bits", loaded(8, row[0]), row[1]);
        }
        if (!isMinusOne(8, 255) || !isMinusOne(8, -1) || !isMinusOne(8, 511) || isMinusOne(8, 254)
            || isMinusOne(8, 128)) {
            Due.fault("38: of 8 bits 255, -1 and 511 are -1, 254 and 128 aren't");
        }
    }

    private static void signsOf16Bits() {
        int[][] rows = {{255, 255}, {999, 999}, {32767, -1}, {32768, -1}, {65535, -1}, {65536, 0}, {65537, 1},
            {66535, 999}, {-1, -1}, {-65536, 0}, {-65535, 1}, {Integer.MAX_VALUE, -1}, {Integer.MIN_VALUE, 0}};
        for (int[] row : rows) {
            Due.due("38: " + row[0] + " of 16 bits", loaded(16, row[0]), row[1]);
        }
        if (!isMinusOne(16, 65535) || !isMinusOne(16, -1) || isMinusOne(16, 255) || isMinusOne(16, 32768)) {
            Due.fault("38: of 16 bits 65535 and -1 are -1, 255 and 32768 aren't");
        }
    }

    private static void signsOf32Bits() {
        int[][] rows = {{999, 999}, {1000, -1}, {65536, -1}, {65537, -1}, {-1, -1}, {Integer.MAX_VALUE, -1},
            {Integer.MIN_VALUE, -1}};
        for (int[] row : rows) {
            Due.due("38: " + row[0] + " of 32 bits", loaded(32, row[0]), row[1]);
        }
        if (!isMinusOne(32, -1) || isMinusOne(32, 65535) || isMinusOne(32, Integer.MIN_VALUE)) {
            Due.fault("38: of 32 bits -1 is -1, 65535 and the lowest int aren't");
        }
    }

    /** Sheets 0, of 6 numbers 1 to 6, and 1, of 4 numbers 11 to 14; both of 16 bits; 2 of 8 bits, 3 missing. */
    private static OysterSecrets rows() {
        OysterSecrets x = Edge.busy();
        x.sheet(0, 16, 6);
        x.sheet(1, 16, 4);
        x.sheet(2, 8, 6);
        for (int i = 0; i < 6; i++) {
            x.write(0, i, i + 1);
            x.write(1, i, i + 11);
        }
        return x;
    }

    /** Promise 39: "BEYOND: one has not so many, or from, to or n is below 0." */
    private static void copiedNumbers() {
        Edge.within("39: n from 0", EdgeSheetsTest::rows, (x, n) -> x.copy(0, 0, 1, 0, n), 0, 4);
        Edge.within("39: n from 3", EdgeSheetsTest::rows, (x, n) -> x.copy(0, 3, 1, 0, n), 0, 3);
        Edge.within("39: n to 3", EdgeSheetsTest::rows, (x, n) -> x.copy(0, 0, 1, 3, n), 0, 1);
        Edge.within("39: n in itself", EdgeSheetsTest::rows, (x, n) -> x.copy(0, 0, 0, 0, n), 0, 6);
        Edge.within("39: from, of 2", EdgeSheetsTest::rows, (x, from) -> x.copy(0, from, 1, 0, 2), 0, 4);
        Edge.within("39: to, of 2", EdgeSheetsTest::rows, (x, to) -> x.copy(0, 0, 1, to, 2), 0, 2);
        Edge.within("39: from, of none", EdgeSheetsTest::rows, (x, from) -> x.copy(0, from, 1, 0, 0), 0, 6);
        Edge.within("39: to, of none", EdgeSheetsTest::rows, (x, to) -> x.copy(0, 0, 1, to, 0), 0, 4);
        int most = Integer.MAX_VALUE;
        int[][] wraps = {{most, 0, most}, {0, most, most}, {most, most, most}, {1, 0, most}, {0, 1, most}, {most, 0, 1},
            {0, most, 1}, {most, 0, Integer.MIN_VALUE}, {Integer.MIN_VALUE, 0, most}, {Integer.MIN_VALUE, 0, 1}};
        for (int[] w : wraps) {
            String call = "39: copy(0, " + w[0] + ", 1, " + w[1] + ", " + w[2] + ")";
            Edge.refused(call, EdgeSheetsTest::rows, x -> x.copy(0, w[0], 1, w[1], w[2]), Due.BEYOND);
        }
    }

    /** Promise 39: "BEYOND: no such sheet (either). MISSING: one is. KIND: they are not of as many bits." */
    private static void copiedSheets() {
        Edge.within("39: the first sheet", EdgeSheetsTest::bothThere, (x, s) -> x.copy(s, 0, 0, 0, 1), 0, 3);
        Edge.within("39: the second sheet", EdgeSheetsTest::bothThere, (x, t) -> x.copy(0, 0, t, 0, 1), 0, 3);
        Edge.refused("39: the first is missing", EdgeSheetsTest::rows, x -> x.copy(3, 0, 0, 0, 1), Due.MISSING);
        Edge.refused("39: the second is missing", EdgeSheetsTest::rows, x -> x.copy(0, 0, 3, 0, 1), Due.MISSING);
        Edge.refused("39: both are missing", EdgeSheetsTest::rows, x -> x.copy(3, 0, 3, 0, 1), Due.MISSING);
        Edge.refused("39: 16 bits to 8", EdgeSheetsTest::rows, x -> x.copy(0, 0, 2, 0, 1), Due.KIND);
        Edge.refused("39: 8 bits to 16", EdgeSheetsTest::rows, x -> x.copy(2, 0, 0, 0, 1), Due.KIND);
        Edge.refused("39: none of other bits", EdgeSheetsTest::rows, x -> x.copy(2, 0, 0, 0, 0), Due.KIND);
        Edge.changesNothing("39: none", EdgeSheetsTest::rows, x -> x.copy(0, 2, 1, 2, 0));
        Edge.changesNothing("39: onto itself", EdgeSheetsTest::rows, x -> x.copy(0, 0, 0, 0, 6));
    }

    private static OysterSecrets bothThere() {
        OysterSecrets x = rows();
        x.sheet(2, 16, 1);
        x.sheet(3, 16, 1);
        return x;
    }

    private static void holds(String sentence, OysterSecrets x, int s, int... wants) {
        Due.due(sentence + ": how many come", x.load(s), Math.min(6, wants.length));
        for (int i = 0; i < Math.min(6, wants.length); i++) {
            Due.due(sentence + ": number " + i, x.bedOf(i, 0), wants[i]);
        }
    }

    /** Promise 39: "come to another one from one on (as they all were): n": also where they lie over one another */
    private static void asTheyAllWere() {
        OysterSecrets x = rows();
        Due.due("39: one on", x.copy(0, 0, 0, 1, 5), 5);
        holds("39: one on", x, 0, 1, 1, 2, 3, 4, 5);
        Due.due("39: one back", x.copy(0, 1, 0, 0, 5), 5);
        holds("39: one back", x, 0, 1, 2, 3, 4, 5, 5);
        Due.due("39: the last alone", x.copy(1, 3, 0, 5, 1), 1);
        holds("39: the last alone", x, 0, 1, 2, 3, 4, 5, 14);
        holds("39: the first one stays", x, 1, 11, 12, 13, 14);
        Due.due("39: all of a shorter one", x.copy(0, 2, 1, 0, 4), 4);
        holds("39: all of a shorter one", x, 1, 3, 4, 5, 14);
        OysterSecrets forty = new OysterSecrets();
        forty.sheet(0, 32, 40);
        forty.sheet(1, 32, 40);
        forty.write(0, 0, 8);
        forty.write(0, 39, 9);
        Due.due("39: forty", forty.copy(0, 0, 1, 0, 40), 40);
        forty.copy(1, 39, 1, 1, 1);
        holds("39: the first and the 40th", forty, 1, 8, 9, 0, 0, 0, 0);
        Edge.refused("39: 41", () -> rows(), y -> y.copy(0, 0, 0, 0, 41), Due.BEYOND);
    }

    /** Promise 40: "It ends at the first that isn't 0 to 999, or for which there is no BED." */
    private static void loadEnds() {
        int[][] rows = {{0, 1}, {999, 1}, {1000, 0}, {-1, 0}, {Integer.MAX_VALUE, 0}, {Integer.MIN_VALUE, 0}};
        for (int[] row : rows) {
            OysterSecrets x = new OysterSecrets();
            Due.sheet(x, 0, row[0]);
            Due.due("40: of " + row[0], x.load(0), row[1]);
            Due.due("40: bed 0 of " + row[0], x.bedOf(0, 0), row[1] == 1 ? row[0] : 100);
        }
        for (int at = 0; at < 6; at++) {
            OysterSecrets x = new OysterSecrets();
            Due.sheet(x, 0, 1, 2, 3, 4, 5, 6);
            x.write(0, at, 1000);
            Due.due("40: up to 1000 at " + at, x.load(0), at);
            for (int b = 0; b < 6; b++) {
                Due.due("40: bed " + b + " of 1000 at " + at, x.bedOf(b, 0), b < at ? b + 1 : 100);
            }
        }
        for (int n = 0; n <= 8; n++) {
            OysterSecrets x = new OysterSecrets();
            x.sheet(0, 16, n);
            Due.due("40: of " + n + " numbers", x.load(0), Math.min(6, n));
            for (int b = 0; b < 6; b++) {
                Due.due("40: bed " + b + " of " + n + " numbers", x.bedOf(b, 0), b < n ? 0 : 100);
            }
        }
        Due.due("40: COLD stays", Edge.busy().bedOf(1, 1), 1);
        Edge.changesNothing("40: of none", () -> {
            OysterSecrets x = Edge.busy();
            x.sheet(3, 8, 0);
            return x;
        }, x -> x.load(3));
    }

    /** Promise 41: "0 if so; else 1 and the place of the first that isn't so" */
    private static void judged() {
        OysterSecrets x = Edge.full();
        int[] layers = {5, 0, 999, 7, 7, 1, 2, 3};
        for (int i = 0; i < 8; i++) {
            x.change(i, LAYERS, layers[i]);
        }
        for (int n = 0; n <= 8; n++) {
            Due.sheet(x, 0, Arrays.copyOf(layers, n));
            Due.due("41: so, of " + n, x.judge(0), 0);
        }
        for (int at = 7; at >= 0; at--) {
            x.write(0, at, layers[at] + 1);
            Due.due("41: not so at " + at, x.judge(0), at + 1);
        }
        OysterSecrets none = new OysterSecrets();
        none.sheet(0, 8, 1);
        Due.due("41: with no oysters", none.judge(0), 1);
        none.sheet(0, 8, 0);
        Due.due("41: with no oysters nor numbers", none.judge(0), 0);
        Edge.changesNothing("41: judge", Edge::busy, y -> y.judge(2));
    }

    /** Promise 41: a number behind those of all OYSTERS isn't so; the 40th can be the first that isn't */
    private static void judgedBehindAll() {
        OysterSecrets x = Edge.full();
        x.sheet(0, 8, 8);
        Due.due("41: eight of eight", x.judge(0), 0);
        x.sheet(0, 8, 9);
        Due.due("41: nine of eight", x.judge(0), 9);
        x.sheet(0, 8, 40);
        Due.due("41: forty of eight", x.judge(0), 9);
        x.write(0, 7, -1);
        Due.due("41: -1 isn't any here", x.judge(0), 8);
    }

    public static void main(String[] args) {
        tenSpots();
        heldOysters();
        asKinds();
        asOneUnderIt();
        asOfNothing();
        fourSheets();
        missingSheets();
        bits();
        sizes();
        allZero();
        writtenNumbers();
        signsOf8Bits();
        signsOf16Bits();
        signsOf32Bits();
        copiedNumbers();
        copiedSheets();
        asTheyAllWere();
        loadEnds();
        judged();
        judgedBehindAll();
        Due.end();
    }
}
