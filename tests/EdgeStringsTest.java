/** The edges of promises 22 to 28: strings, and told layers. */
public final class EdgeStringsTest {
    private static final int KIND = 0;
    private static final int WEIGHT = 2;
    private static final int LAYERS = 3;
    private static final int MINISTER = 6;

    private static OysterSecrets withLayers(int... layers) {
        OysterSecrets x = new OysterSecrets();
        for (int i = 0; i < layers.length; i++) {
            x.oyster(0, 0);
            x.change(i, LAYERS, layers[i]);
        }
        return x;
    }

    /** Promises 22 to 24: "v (0 to 999)" */
    private static void v() {
        Edge.within("22: v", Edge::busy, (x, v) -> x.alike(1, v), 0, 999);
        Edge.within("23: v", Edge::busy, (x, v) -> x.string(v), 0, 999);
        Edge.within("23: v, with no oysters", Edge::fresh, (x, v) -> x.string(v), 0, 999);
        Edge.within("24: v", Edge::busy, (x, v) -> x.pairs(v), 0, 999);
        Edge.within("24: v, with no oysters", Edge::fresh, (x, v) -> x.pairs(v), 0, 999);
    }

    /** Promise 22: of no OYSTER is BEYOND. */
    private static void noOysters() {
        Edge.oysters("22: an oyster", (x, i) -> x.alike(i, 5));
    }

    /** Promises 22 to 25 tell, and change nothing. */
    private static void nothingChanges() {
        Edge.changesNothing("22: alike", Edge::busy, x -> x.alike(3, 40));
        Edge.changesNothing("23: string", Edge::busy, x -> x.string(40));
        Edge.changesNothing("24: pairs", Edge::busy, x -> x.pairs(40));
        Edge.changesNothing("25: match", Edge::busy, x -> x.match());
    }

    /** Promise 22: "as a set (itself, too)": by 0 itself and its likes, by 999 all */
    private static void alikeEnds() {
        OysterSecrets x = withLayers(0, 999, 0, 998, 1);
        int[][] rows = {{0, 0, 5}, {1, 0, 2}, {3, 0, 8}, {0, 1, 21}, {1, 1, 10}, {0, 998, 29}, {0, 999, 31}, {1, 998, 26},
            {1, 999, 31}};
        for (int[] row : rows) {
            Due.due("22: alike(" + row[0] + ", " + row[1] + ")", x.alike(row[0], row[1]), row[2]);
        }
        Due.due("22: one alone", withLayers(500).alike(0, 0), 1);
    }

    /** Promise 23: of none 0, of one 1, of eight 8; a gap of v on both sides */
    private static void stringEnds() {
        Due.due("23: of none", withLayers().string(0), 0);
        Due.due("23: of none by 999", withLayers().string(999), 0);
        Due.due("23: of one", withLayers(7).string(0), 1);
        Due.due("23: of eight likes", withLayers(7, 7, 7, 7, 7, 7, 7, 7).string(0), 8);
        OysterSecrets x = withLayers(70, 0, 60, 10, 50, 20, 40, 30);
        Due.due("23: gaps of 10 by 9", x.string(9), 1);
        Due.due("23: gaps of 10 by 10", x.string(10), 8);
        OysterSecrets ends = withLayers(999, 0);
        Due.due("23: 999 apart by 998", ends.string(998), 1);
        Due.due("23: 999 apart by 999", ends.string(999), 2);
        Due.due("23: the longer of two", withLayers(0, 5, 100, 105, 110).string(5), 3);
        Due.due("23: the longer of two, the first", withLayers(0, 5, 10, 100, 105).string(5), 3);
    }

    /** Promise 24: "each OYSTER in one at most": of none, one, two, three, eight */
    private static void pairsEnds() {
        Due.due("24: of none", withLayers().pairs(999), 0);
        Due.due("24: of one", withLayers(7).pairs(999), 0);
        Due.due("24: of two likes", withLayers(7, 7).pairs(0), 1);
        Due.due("24: of three likes", withLayers(7, 7, 7).pairs(0), 1);
        Due.due("24: of seven likes", withLayers(7, 7, 7, 7, 7, 7, 7).pairs(0), 3);
        Due.due("24: of eight likes", withLayers(7, 7, 7, 7, 7, 7, 7, 7).pairs(0), 4);
        OysterSecrets ends = withLayers(999, 0);
        Due.due("24: 999 apart by 998", ends.pairs(998), 0);
        Due.due("24: 999 apart by 999", ends.pairs(999), 1);
        OysterSecrets x = withLayers(30, 0, 20, 10);
        Due.due("24: gaps of 10 by 9", x.pairs(9), 0);
        Due.due("24: gaps of 10 by 10", x.pairs(10), 2);
        Due.due("24: one left over between", withLayers(0, 10, 20, 40, 50).pairs(10), 2);
    }

    /** Promise 25: "(0 with fewer than two)", 999 at most */
    private static void matchEnds() {
        Due.due("25: of none", withLayers().match(), 0);
        Due.due("25: of one", withLayers(999).match(), 0);
        Due.due("25: of two likes", withLayers(999, 999).match(), 0);
        Due.due("25: of two", withLayers(0, 1).match(), 1);
        Due.due("25: the most", withLayers(0, 999).match(), 999);
        Due.due("25: of eight", withLayers(1, 2, 4, 7, 11, 16, 22, 29).match(), 7);
        Due.due("25: of eight likes", withLayers(5, 5, 5, 5, 5, 5, 5, 5).match(), 0);
        OysterSecrets x = withLayers(3, 10, 0, 20);
        Due.due("25: the widest gap", x.match(), 10);
        Due.due("25: all in a row by it", x.string(10), 4);
        Due.due("25: not by one less", x.string(9), 3);
    }

    /** Promises 23 to 25: of those that there are now, not of those that there were before undo() */
    private static void fewerThanThereWere() {
        OysterSecrets x = new OysterSecrets();
        x.image();
        for (int i = 0; i < 8; i++) {
            x.oyster(0, 0);
            x.change(i, LAYERS, 100 * i);
        }
        Due.due("25: of eight", x.match() + x.string(100) + x.pairs(100), 100 + 8 + 4);
        x.undo();
        Due.due("25: of none then", x.match() + x.string(999) + x.pairs(999), 0);
        x.oyster(0, 0);
        Due.due("25: of one then", x.match() + x.pairs(999), 0);
        Due.due("23: of one then", x.string(999), 1);
        x.oyster(0, 0);
        Due.due("25: of two then", x.match(), 0);
        Due.due("24: of two then", x.pairs(0), 1);
    }

    private static OysterSecrets withSheet(int kind, int... numbers) {
        OysterSecrets x = new OysterSecrets();
        x.oyster(kind, 0);
        Due.sheet(x, 0, numbers);
        return x;
    }

    /** Promises 26 to 28: "BEYOND: no such sheet." and "BEYOND: no such OYSTER." */
    private static void sheetsAndOysters() {
        Edge.refused("26: a missing sheet", Edge::busy, x -> x.fits(3, 0), Due.MISSING);
        Edge.refused("27: a missing sheet", Edge::busy, x -> x.weighed(3, 0), Due.MISSING);
        Edge.refused("28: a missing sheet", Edge::busy, x -> x.kinds(3, 0), Due.MISSING);
        Edge.Maker sheets = () -> {
            OysterSecrets x = Edge.busy();
            x.sheet(3, 16, 0);
            return x;
        };
        Edge.within("26: a sheet", sheets, (x, s) -> x.fits(s, 0), 0, 3);
        Edge.within("27: a sheet", sheets, (x, s) -> x.weighed(s, 0), 0, 3);
        Edge.within("28: a sheet", sheets, (x, s) -> x.kinds(s, 0), 0, 3);
        Edge.within("26: an oyster", Edge::busy, (x, i) -> x.fits(1, i), 0, 6);
        Edge.within("27: an oyster", Edge::busy, (x, i) -> x.weighed(1, i), 0, 6);
        Edge.within("28: an oyster", Edge::busy, (x, i) -> x.kinds(1, i), 0, 6);
        Edge.refused("26: with no oysters", () -> sheetAlone(), x -> x.fits(0, 0), Due.BEYOND);
        Edge.refused("27: with no oysters", () -> sheetAlone(), x -> x.weighed(0, 0), Due.BEYOND);
        Edge.refused("28: with no oysters", () -> sheetAlone(), x -> x.kinds(0, 0), Due.BEYOND);
    }

    private static OysterSecrets sheetAlone() {
        OysterSecrets x = new OysterSecrets();
        x.sheet(0, 8, 1);
        return x;
    }

    /** Promises 26 to 28 tell, and change nothing. */
    private static void toldLayersChangeNothing() {
        Edge.Maker fitting = () -> {
            OysterSecrets x = Edge.busy();
            x.write(1, 0, x.of(1, LAYERS));
            for (int i = 1; i < 5; i++) {
                x.write(1, i, -1);
            }
            return x;
        };
        Edge.changesNothing("26: fits", fitting, x -> x.fits(1, 1));
        Edge.changesNothing("27: weighed", fitting, x -> x.weighed(1, 1));
        Edge.changesNothing("28: kinds", fitting, x -> x.kinds(1, 1));
        Edge.refused("27: NONE", Edge::busy, x -> x.weighed(1, 1), Due.NONE);
    }

    /** Promise 26: "WEIGHTS (1 to 99)": all 99 of them, none, and neither 0 nor 100 */
    private static void weightsEnds() {
        OysterSecrets all = withSheet(0, 0, 6);
        Due.due("26: all", all.fits(0, 0), 99);
        Due.due("27: the least of all", all.weighed(0, 0), 1);
        OysterSecrets none = withSheet(0, 0, 7);
        Due.due("26: none", none.fits(0, 0), 0);
        Due.due("27: none", none.weighed(0, 0), Due.NONE);
        OysterSecrets told = withSheet(0, 0, 0);
        Due.due("26: weight 0 would do, but isn't asked", told.fits(0, 0), 0);
        Due.due("27: weight 0 would do, but isn't asked", told.weighed(0, 0), Due.NONE);
        OysterSecrets heavy = withSheet(1, 0, 15);
        Due.due("26: 90 to 99", heavy.fits(0, 0), 10);
        Due.due("27: 90", heavy.weighed(0, 0), 90);
        OysterSecrets heavier = withSheet(1, 0, 16);
        Due.due("26: 100 would do, but isn't asked", heavier.fits(0, 0), 0);
        Due.due("27: 100 would do, but isn't asked", heavier.weighed(0, 0), Due.NONE);
        OysterSecrets light = withSheet(1, 0, 6);
        Due.due("26: 1 to 9", light.fits(0, 0), 9);
        Due.due("27: 1", light.weighed(0, 0), 1);
        Due.due("26: its own weight doesn't matter", light.change(0, WEIGHT, 0) + light.fits(0, 0), 19);
    }

    /** Promise 26: "(-1: any)": -2 isn't, nor is 999 for 1000 */
    private static void any() {
        int[][] rows = {{-1, 99}, {-2, 0}, {0, 99}, {1, 0}, {Integer.MIN_VALUE, 0}, {Integer.MAX_VALUE, 0}};
        for (int[] row : rows) {
            OysterSecrets x = withSheet(0, row[0]);
            Due.due("26: of " + row[0], x.fits(0, 0), row[1]);
            Due.due("27: of " + row[0], x.weighed(0, 0), row[1] == 0 ? Due.NONE : 1);
            Due.due("28: of " + row[0], x.kinds(0, 0), row[1] == 0 ? 0 : 127);
        }
    }

    /** Promise 26: "its LAYERS now and behind each YEAR further on": a sheet of none, and one of 40 numbers */
    private static void noneAndForty() {
        OysterSecrets x = withSheet(0);
        Due.due("26: of no numbers", x.fits(0, 0), 99);
        Due.due("27: of no numbers", x.weighed(0, 0), 1);
        Due.due("28: of no numbers", x.kinds(0, 0), 127);
        int[] layers = new int[40];
        for (int i = 0; i < 40; i++) {
            layers[i] = 6 * i;
        }
        Due.sheet(x, 0, layers);
        Due.due("26: of 40", x.fits(0, 0), 99);
        Due.due("27: of 40", x.weighed(0, 0), 1);
        Due.due("28: of 40", x.kinds(0, 0), 1);
        x.write(0, 39, 235);
        Due.due("26: all but the 40th", x.fits(0, 0), 0);
        Due.due("27: all but the 40th", x.weighed(0, 0), Due.NONE);
        Due.due("28: all but the 40th", x.kinds(0, 0), 0);
        x.write(0, 39, 234);
        x.write(0, 0, 1);
        Due.due("26: all but the first", x.fits(0, 0), 0);
    }

    /** Promise 27: "The least of them .. NONE." where the greatest alone does */
    private static void weighedTheGreatest() {
        OysterSecrets x = new OysterSecrets();
        x.oyster(MINISTER, 0);
        x.bed(0, 0, 30);
        x.comes(0);
        Due.sheet(x, 0, 0, 30);
        Due.due("27: 30 by 90 to 99", x.weighed(0, 0), 90);
        x.change(0, KIND, 1);
        Due.sheet(x, 0, 0, 15, 30);
        Due.due("27: 15 and 15", x.weighed(0, 0), 90);
        x.bed(0, 0, 29);
        Due.due("27: 15 and 14", x.weighed(0, 0), Due.NONE);
    }

    /** Promise 28: "KINDS that it could be of, as a set": none, one of each, all */
    private static void kindsEnds() {
        int[][] rows = {{6, 1 + 32}, {7, 2}, {3, 4}, {2, 8 + 16}, {14, 64}, {0, 0}, {1, 0}, {-1, 127}};
        for (int[] row : rows) {
            OysterSecrets x = withSheet(4, 0, row[0]);
            Due.due("28: " + row[0] + " in a year", x.kinds(0, 0), row[1]);
        }
        OysterSecrets told = withSheet(4, 0, 0);
        told.change(0, WEIGHT, 0);
        Due.due("28: a told one gets none as any", told.kinds(0, 0), 127);
        told.write(0, 1, 6);
        Due.due("28: a told one gets none", told.kinds(0, 0), 0);
        OysterSecrets poor = withSheet(0, 0, 2, 4);
        Due.due("28: a poor one alone", poor.kinds(0, 0), 8);
        OysterSecrets moon = withSheet(0, 0, 2, 2);
        Due.due("28: a moon one alone", moon.kinds(0, 0), 16);
    }

    public static void main(String[] args) {
        v();
        noOysters();
        nothingChanges();
        alikeEnds();
        stringEnds();
        pairsEnds();
        matchEnds();
        fewerThanThereWere();
        sheetsAndOysters();
        toldLayersChangeNothing();
        weightsEnds();
        any();
        noneAndForty();
        weighedTheGreatest();
        kindsEnds();
        Due.end();
    }
}
