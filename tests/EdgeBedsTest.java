/** The edges of beds and oysters: those of the document's Terms 1, and of promises 1 to 8. */
public final class EdgeBedsTest {
    private static final int TAKES = 6;
    private static final int NEEDS = 7;
    private static final int OPENS = 8;
    private static final int WORTH = 9;
    private static final int OYSTER = 0;
    private static final int BLACK = 1;
    private static final int SEED = 2;
    private static final int POOR = 3;
    private static final int MOON = 4;
    private static final int DEAR = 5;
    private static final int MINISTER = 6;

    /** What is told of an oyster of weight, layers, age, shown as given, in a bed of cold as given. */
    private static int told(int what, int kind, int cold, int... changes) {
        OysterSecrets x = new OysterSecrets();
        x.bed(2, 1, cold);
        x.oyster(kind, 2);
        for (int i = 0; i < changes.length; i++) {
            x.change(0, 2 + i, changes[i]);
        }
        return x.of(0, what);
    }

    /** Rows of a weight and what an oyster of the kind takes with it. */
    private static void takesByWeight(int kind, int[]... rows) {
        for (int[] row : rows) {
            Due.due("Terms: kind " + kind + " of weight " + row[0] + " takes", told(TAKES, kind, 3, row[0]), row[1]);
        }
    }

    private static void takesByAge(int kind, int[]... rows) {
        for (int[] row : rows) {
            int takes = told(TAKES, kind, 3, 10, 0, row[0]);
            Due.due("Terms: kind " + kind + " of age " + row[0] + " takes", takes, row[1]);
        }
    }

    /** Rows of a weight, a cold and what an oyster of the kind needs with them. */
    private static void needs(int kind, int[]... rows) {
        for (int[] row : rows) {
            int needs = told(NEEDS, kind, row[1], row[0]);
            Due.due("Terms: kind " + kind + " of weight " + row[0] + " in a cold of " + row[1] + " needs", needs, row[2]);
        }
    }

    /** Rows of a weight, a cold and whether an oyster of the kind opens with them. */
    private static void opens(int kind, int[]... rows) {
        for (int[] row : rows) {
            int opens = told(OPENS, kind, row[1], row[0]);
            Due.due("Terms: kind " + kind + " of weight " + row[0] + " in a cold of " + row[1] + " opens", opens, row[2]);
        }
    }

    /** Rows of a weight, layers, shown and what an oyster of the kind is worth with them. */
    private static void worth(int kind, int[]... rows) {
        for (int[] row : rows) {
            int worth = told(WORTH, kind, 3, row[0], row[1], 0, row[2]);
            Due.due("Terms: kind " + kind + " of weight " + row[0] + ", layers " + row[1] + ", shown " + row[2]
                + " is worth", worth, row[3]);
        }
    }

    /** "BEDS 0 to 5" */
    private static void sixBeds() {
        Edge.within("2: NACRE of a bed", Edge::busy, (x, b) -> x.bed(b, 0, 5), 0, 5);
        Edge.within("2: COLD of a bed", Edge::busy, (x, b) -> x.bed(b, 1, 5), 0, 5);
        Edge.within("3: a bed's nacre", Edge::busy, (x, b) -> x.bedOf(b, 0), 0, 5);
        Edge.within("3: a bed's oysters", Edge::busy, (x, b) -> x.bedOf(b, 2), 0, 5);
        Edge.within("5: an oyster in a bed", Edge::busy, (x, b) -> x.oyster(0, b), 0, 5);
        Edge.within("7: an oyster's bed", Edge::busy, (x, b) -> x.change(6, 1, b), 0, 5);
    }

    /** "round (behind 5 comes 0)": there is no bed 6, nor is it bed 0; what is done at one end isn't at the other. */
    private static void roundBeds() {
        OysterSecrets x = new OysterSecrets();
        x.bed(5, 0, 7);
        x.bed(5, 1, 9);
        x.bed(6, 0, 8);
        x.bed(-1, 0, 6);
        Due.due("Terms: bed 0 behind bed 5", x.bedOf(0, 0), 100);
        Due.due("Terms: its cold", x.bedOf(0, 1), 3);
        Due.due("Terms: bed 5 ahead of bed 0", x.bedOf(5, 0), 7);
        Due.due("Terms: an oyster in bed 5", x.oyster(0, 5), 0);
        Due.due("Terms: isn't in bed 0", x.bedOf(0, 2), 0);
        Due.due("Terms: it is in bed 5", x.bedOf(5, 2), 1);
    }

    /** "NACRE (0 to 999; 100 at first)" */
    private static void nacre() {
        for (int b = 0; b < 6; b++) {
            Due.due("Terms: NACRE at first", new OysterSecrets().bed(b, 0, 0), 100);
        }
        Edge.within("2: NACRE", Edge::busy, (x, v) -> x.bed(1, 0, v), 0, 999);
        OysterSecrets x = new OysterSecrets();
        x.bed(0, 0, 999);
        Due.due("2: 1000 after 999", x.bed(0, 0, 1000), Due.BEYOND);
        Due.due("2: 999 stays", x.bed(0, 0, 0), 999);
        Due.due("2: -1 after 0", x.bed(0, 0, -1), Due.BEYOND);
        Due.due("2: 0 stays", x.bedOf(0, 0), 0);
    }

    /** "COLD (0 to 9; 3 at first)" */
    private static void cold() {
        for (int b = 0; b < 6; b++) {
            Due.due("Terms: COLD at first", new OysterSecrets().bed(b, 1, 0), 3);
        }
        Edge.within("2: COLD", Edge::busy, (x, v) -> x.bed(1, 1, v), 0, 9);
        OysterSecrets x = new OysterSecrets();
        x.bed(0, 1, 9);
        Due.due("2: 10 after 9", x.bed(0, 1, 10), Due.BEYOND);
        Due.due("2: 9 stays", x.bed(0, 1, 0), 9);
        Due.due("2: -1 after 0", x.bed(0, 1, -1), Due.BEYOND);
        Due.due("2: 0 stays", x.bedOf(0, 1), 0);
    }

    /** "COMES (NACRE in a YEAR, 0 to 99; 20 at first)" */
    private static void comes() {
        Due.due("4: COMES at first", new OysterSecrets().comes(0), 20);
        Edge.within("4: COMES", Edge::busy, (x, v) -> x.comes(v), 0, 99);
        OysterSecrets x = new OysterSecrets();
        x.comes(99);
        Due.due("4: 100 after 99", x.comes(100), Due.BEYOND);
        Due.due("4: 99 stays", x.comes(0), 99);
        Due.due("4: -1 after 0", x.comes(-1), Due.BEYOND);
        Due.due("4: 0 stays", x.comes(1), 0);
    }

    /** "OYSTERS 0, 1, .. (at most 8)", and FULL */
    private static void eightOysters() {
        OysterSecrets x = new OysterSecrets();
        for (int i = 0; i < 8; i++) {
            Due.due("5: an oyster's number", x.oyster(i % 7, i % 6), i);
        }
        Due.due("5: a 9th", x.oyster(0, 0), Due.FULL);
        Due.due("5: there are eight", x.count(1), 8);
        Due.due("5: the 8th's kind stays", x.of(7, 0), 0);
        Due.due("5: the 8th's bed stays", x.of(7, 1), 1);
        Edge.refused("5: a 9th", Edge::full, y -> y.oyster(6, 5), Due.FULL);
        Edge.taken("5: an 8th", Edge::busy, y -> y.oyster(6, 5));
    }

    /** "of KINDS: 0 .. 6" */
    private static void sevenKinds() {
        Edge.within("5: a kind", Edge::busy, (x, k) -> x.oyster(k, 0), 0, 6);
        Edge.within("7: a kind", Edge::busy, (x, k) -> x.change(5, 0, k), 0, 6);
    }

    /** "WEIGHT (of its secret, 0 to 99; 10 at first ..)", LAYERS, AGE, SHOWN "(0 to 999; 0 at first)" */
    private static void firstOnes() {
        int[] first = {10, 0, 0, 0};
        OysterSecrets x = new OysterSecrets();
        for (int k = 0; k < 7; k++) {
            x.oyster(k, 5);
            for (int what = 2; what < 6; what++) {
                Due.due("Terms: of(" + k + ", " + what + ") at first", x.of(k, what), first[what - 2]);
            }
        }
    }

    /** "0: it is told, and dissolved": of 1 it isn't */
    private static void toldAtZero() {
        OysterSecrets x = new OysterSecrets();
        x.oyster(0, 0);
        x.change(0, 3, 50);
        x.change(0, 2, 1);
        Due.due("Terms: of weight 1 it isn't told", x.now(2) + x.count(2), 0);
        Due.due("Terms: of weight 1 it is worth", x.of(0, 9), 50);
        x.change(0, 2, 0);
        Due.due("Terms: of weight 0 it is told", x.now(2), 1);
        Due.due("Terms: of weight 0 it is counted as told", x.count(2), 1);
        Due.due("Terms: of weight 0 it is worth nothing", x.of(0, 9), 0);
        Due.due("Terms: its layers are left", x.of(0, 3), 50);
        x.change(0, 2, 99);
        Due.due("Terms: with another secret it isn't told", x.now(2), 0);
    }

    /** TAKES of each kind. */
    private static void takes() {
        takesByWeight(OYSTER, new int[][] {{1, 6}, {99, 6}});
        takesByAge(OYSTER, new int[][] {{0, 6}, {1, 6}, {999, 6}});
        takesByWeight(BLACK, new int[][] {{1, 6}, {9, 6}, {10, 7}, {19, 7}, {20, 8}, {89, 14}, {90, 15}, {99, 15}});
        takesByWeight(MINISTER, new int[][] {{1, 12}, {9, 12}, {10, 14}, {89, 28}, {90, 30}, {99, 30}});
        takesByWeight(SEED, new int[][] {{1, 3}, {99, 3}});
        takesByWeight(POOR, new int[][] {{1, 2}, {99, 2}});
        takesByAge(POOR, new int[][] {{0, 2}, {1, 2}});
        takesByAge(MOON, new int[][] {{0, 2}, {1, 0}, {2, 2}, {997, 0}, {998, 2}, {999, 0}});
        takesByAge(DEAR, new int[][] {{0, 6}, {9, 6}, {10, 7}, {19, 7}, {20, 8}});
    }

    /** DEAR TAKES "1 for each 10 YEARS of its AGE (9 at most)" */
    private static void dearTakesNineMore() {
        takesByAge(DEAR, new int[][] {{79, 13}, {80, 14}, {89, 14}, {90, 15}, {99, 15}, {100, 15}, {110, 15}, {999, 15}});
    }

    /** NEEDS of OYSTER, BLACK, MINISTER, SEED. */
    private static void needsOfMost() {
        needs(OYSTER, new int[][] {{1, 3, 1}, {99, 3, 99}, {50, 0, 50}, {50, 9, 50}});
        needs(BLACK, new int[][] {{1, 3, 2}, {99, 3, 198}, {50, 9, 100}});
        needs(MINISTER, new int[][] {{1, 3, 12}, {99, 3, 208}, {50, 9, 110}});
        needs(SEED, new int[][] {{1, 3, 0}, {2, 3, 1}, {3, 3, 1}, {98, 9, 49}, {99, 9, 49}});
    }

    /** POOR NEEDS "as a SEED, less COLD of its BED (0 at least)", and MOON as a POOR one */
    private static void poorNeedsNoLessThanNone() {
        int[][] rows = {{99, 0, 49}, {99, 9, 40}, {20, 9, 1}, {19, 9, 0}, {18, 9, 0}, {17, 9, 0}, {1, 9, 0}, {1, 0, 0},
            {2, 0, 1}, {2, 1, 0}, {2, 2, 0}};
        needs(POOR, rows);
        needs(MOON, rows);
    }

    /** DEAR NEEDS "as an OYSTER, less 5 (0 at least)" */
    private static void dearNeedsNoLessThanNone() {
        needs(DEAR, new int[][] {{1, 3, 0}, {4, 3, 0}, {5, 3, 0}, {6, 3, 1}, {7, 9, 2}, {99, 0, 94}});
    }

    /** OPENS "if COLD of its BED is below 3" */
    private static void opensBelowThree() {
        int[][] rows = {{10, 0, 1}, {10, 1, 1}, {10, 2, 1}, {10, 3, 0}, {10, 4, 0}, {10, 9, 0}, {99, 2, 1}, {99, 3, 0}};
        opens(OYSTER, rows);
        opens(SEED, rows);
        opens(DEAR, rows);
    }

    /** BLACK OPENS "as an OYSTER, but never, if WEIGHT is above 50" */
    private static void blackOpensUpToFifty() {
        opens(BLACK, new int[][] {{1, 2, 1}, {49, 2, 1}, {50, 2, 1}, {51, 2, 0}, {52, 2, 0}, {99, 0, 0}, {50, 3, 0},
            {51, 3, 0}});
    }

    /** "MINISTER: never." and "POOR: always." */
    private static void neverAndAlways() {
        for (int cold = 0; cold < 10; cold++) {
            opens(MINISTER, new int[][] {{1, cold, 0}, {50, cold, 0}, {99, cold, 0}});
            opens(POOR, new int[][] {{1, cold, 1}, {50, cold, 1}, {99, cold, 1}});
        }
    }

    /** MOON OPENS "if YEAR leaves 2 by 3" */
    private static void moonOpensEachThirdYear() {
        OysterSecrets x = new OysterSecrets();
        x.oyster(MOON, 0);
        for (int year = 0; year < 30; year++) {
            x.bed(0, 1, year % 10);
            Due.due("Terms: a moon one opens in year " + year, x.of(0, OPENS), year % 3 == 2 ? 1 : 0);
            x.go(1);
        }
    }

    /** WORTH of OYSTER, BLACK, SEED, POOR, MOON, DEAR. */
    private static void worthOfMost() {
        worth(OYSTER, new int[][] {{10, 0, 0, 0}, {10, 1, 0, 1}, {10, 999, 999, 999}});
        worth(BLACK, new int[][] {{1, 0, 0, 1}, {99, 999, 999, 1098}});
        for (int kind : new int[] {SEED, POOR, MOON}) {
            worth(kind, new int[][] {{10, 0, 0, 0}, {10, 1, 0, 0}, {10, 2, 0, 1}, {10, 3, 0, 1}, {10, 999, 9, 499}});
        }
        worth(DEAR, new int[][] {{10, 0, 0, 0}, {10, 1, 0, 3}, {10, 999, 9, 2997}});
    }

    /** MINISTER WORTH "as a BLACK one, less 10 for each time it has SHOWN (0 at least)" */
    private static void ministerWorthNoLessThanNone() {
        worth(MINISTER, new int[][] {{10, 20, 0, 30}, {10, 20, 1, 20}, {10, 20, 2, 10}, {10, 20, 3, 0}, {10, 20, 4, 0},
            {10, 21, 3, 1}, {10, 19, 3, 0}, {99, 999, 109, 8}, {99, 999, 110, 0}, {1, 0, 999, 0}});
    }

    /** "(All 0, if it is told.)" */
    private static void toldOnesAreWorthNothing() {
        for (int kind = 0; kind < 7; kind++) {
            worth(kind, new int[][] {{0, 999, 0, 0}, {0, 0, 0, 0}});
            int one = told(WORTH, kind, 3, 1, 999, 0, 0);
            if (one <= 0) {
                Due.fault("Terms: kind " + kind + " of weight 1 is worth " + one);
            }
        }
    }

    /** Promise 1: "All as at first; no OYSTERS; THE TAPE is empty, no image is kept." */
    private static void newObject() {
        Edge.refused("1: no oyster", Edge::fresh, x -> x.of(0, 0), Due.BEYOND);
        Edge.refused("1: no image", Edge::fresh, x -> x.undo(), Due.NONE);
        OysterSecrets x = new OysterSecrets();
        Due.due("1: none is kept", x.tear(), 0);
        Due.due("1: the tape", x.wipe(), 0);
        Due.due("1: an empty tape", x.text(), -1);
        for (int spot = 0; spot < 10; spot++) {
            Due.due("1: spot " + spot, x.as(spot, 0), Due.MISSING);
        }
        for (int s = 0; s < 4; s++) {
            Due.due("1: sheet " + s, x.judge(s), Due.MISSING);
        }
        Due.due("1: YEAR", x.now(0), 0);
        Due.due("1: z", x.seed(1), 1);
        Trace.same("1: two new ones", new OysterSecrets(), new OysterSecrets());
    }

    /** Promises 2, 3, 6, 7: other whats are BEYOND. */
    private static void whats() {
        Edge.within("2: what", Edge::busy, (x, what) -> x.bed(0, what, 5), 0, 1);
        Edge.within("3: what", Edge::busy, (x, what) -> x.bedOf(0, what), 0, 2);
        Edge.within("6: what", Edge::busy, (x, what) -> x.of(0, what), 0, 9);
        Edge.within("7: what", Edge::busy, (x, what) -> x.change(0, what, 5), 0, 5);
    }

    /** Promise 2: what 0 takes more than what 1 does. */
    private static void eachWhatItsOwnMost() {
        Edge.taken("2: NACRE of 10", Edge::busy, x -> x.bed(0, 0, 10));
        Edge.refused("2: COLD of 10", Edge::busy, x -> x.bed(0, 1, 10), Due.BEYOND);
        Edge.refused("2: COLD of 999", Edge::busy, x -> x.bed(0, 1, 999), Due.BEYOND);
    }

    /** Promise 3: "OYSTERS IN it, as a set": none, some, all; told ones, too. */
    private static void setsOfBeds() {
        OysterSecrets x = Edge.full();
        Due.due("3: bed 0", x.bedOf(0, 2), 1 + 64);
        Due.due("3: bed 1", x.bedOf(1, 2), 2 + 128);
        Due.due("3: bed 5", x.bedOf(5, 2), 32);
        for (int i = 0; i < 8; i++) {
            x.change(i, 1, 5);
            x.open(i);
        }
        Due.due("3: all in bed 5", x.bedOf(5, 2), 255);
        Due.due("3: none in bed 0", x.bedOf(0, 2), 0);
    }

    /** Promises 3 and 6 change nothing. */
    private static void tellingChangesNothing() {
        for (int what = 0; what < 3; what++) {
            int w = what;
            Edge.changesNothing("3: bedOf(1, " + what + ")", Edge::busy, x -> x.bedOf(1, w));
        }
        for (int what = 0; what < 10; what++) {
            int w = what;
            Edge.changesNothing("6: of(3, " + what + ")", Edge::busy, x -> x.of(3, w));
        }
    }

    /** Promises 6, 7, 8: of no OYSTER is BEYOND. */
    private static void noOysters() {
        Edge.oysters("6: an oyster", (x, i) -> x.of(i, 0));
        Edge.oysters("7: an oyster", (x, i) -> x.change(i, 3, 7));
        Edge.oysters("8: an oyster", (x, i) -> x.open(i));
    }

    /** Promise 7: "becomes v: what it was. BEYOND.", for each what on both sides of its edges */
    private static void changes() {
        int[] most = {6, 5, 99, 999, 999, 999};
        int[] first = {5, 2, 10, 0, 0, 0};
        for (int what = 0; what < 6; what++) {
            int w = what;
            Edge.within("7: what " + what, Edge::busy, (x, v) -> x.change(1, w, v), 0, most[what]);
            OysterSecrets x = new OysterSecrets();
            x.oyster(5, 2);
            Due.due("7: it was at first " + what, x.change(0, what, most[what]), first[what]);
            Due.due("7: one more " + what, x.change(0, what, most[what] + 1), Due.BEYOND);
            Due.due("7: it stays " + what, x.of(0, what), most[what]);
            Due.due("7: it was " + what, x.change(0, what, 0), most[what]);
            Due.due("7: one less " + what, x.change(0, what, -1), Due.BEYOND);
            Due.due("7: it stays 0 " + what, x.change(0, what, 1), 0);
        }
    }

    /** Promise 8: "its WORTH; WEIGHT, LAYERS, AGE and SHOWN are 0 then": of a told one, of one with no layers. */
    private static void opened() {
        OysterSecrets x = Edge.full();
        for (int i = 0; i < 8; i++) {
            for (int what = 3; what < 6; what++) {
                x.change(i, what, 999);
            }
        }
        int[] worth = {999, 999 + 10, 499, 499, 499, 2997, 0, 999};
        for (int i = 0; i < 8; i++) {
            Due.due("8: open(" + i + ")", x.open(i), worth[i]);
            for (int what = 2; what < 6; what++) {
                Due.due("8: of(" + i + ", " + what + ") then", x.of(i, what), 0);
            }
            Due.due("8: its kind stays", x.of(i, 0), i % 7);
            Due.due("8: its bed stays", x.of(i, 1), i % 6);
            Due.due("8: open(" + i + ") of a told one", x.open(i), 0);
        }
        Due.due("8: they are told", x.now(2), 255);
        Due.due("8: they are there", x.count(1), 8);
        x.oyster(0, 0);
        Due.due("8: no room is made by it", x.status(1), 1);
    }

    public static void main(String[] args) {
        sixBeds();
        roundBeds();
        nacre();
        cold();
        comes();
        eightOysters();
        sevenKinds();
        firstOnes();
        toldAtZero();
        takes();
        dearTakesNineMore();
        needsOfMost();
        poorNeedsNoLessThanNone();
        dearNeedsNoLessThanNone();
        opensBelowThree();
        blackOpensUpToFifty();
        neverAndAlways();
        moonOpensEachThirdYear();
        worthOfMost();
        ministerWorthNoLessThanNone();
        toldOnesAreWorthNothing();
        newObject();
        whats();
        eachWhatItsOwnMost();
        setsOfBeds();
        tellingChangesNothing();
        noOysters();
        changes();
        opened();
        Due.end();
    }
}
