/** The edges of promises 16 to 21: where, as what. */
public final class EdgeWhereTest {
    private static final int KIND = 0;
    private static final int WEIGHT = 2;
    private static final int LAYERS = 3;
    private static final int AGE = 4;
    private static final int SHOWN = 5;
    private static final int POOR = 3;
    private static final int DEAR = 5;
    private static final int MINISTER = 6;

    /** Promises 16 to 20: "n (0 to 40) YEARS"; promise 21: v "(0 to 999)", n "(0 to 20)" */
    private static void years() {
        Edge.within("16: n", Edge::busy, (x, n) -> x.sow(1, n), 0, 40);
        Edge.within("17: n", Edge::busy, (x, n) -> x.kindFor(1, n), 0, 40);
        Edge.within("18: n", Edge::busy, (x, n) -> x.weightFor(1, n), 0, 40);
        Edge.within("19: n", Edge::busy, (x, n) -> x.comesFor(1, n), 0, 40);
        Edge.within("20: n", Edge::busy, (x, n) -> x.coldFor(1, n), 0, 40);
        Edge.within("21: v", Edge::busy, (x, v) -> x.room(1, v, 20), 0, 999);
        Edge.within("21: n", Edge::busy, (x, n) -> x.room(1, 5, n), 0, 20);
    }

    /** Promises 16 to 21: of no OYSTER is BEYOND. */
    private static void noOysters() {
        Edge.oysters("16: an oyster", (x, i) -> x.sow(i, 3));
        Edge.oysters("17: an oyster", (x, i) -> x.kindFor(i, 3));
        Edge.oysters("18: an oyster", (x, i) -> x.weightFor(i, 3));
        Edge.oysters("19: an oyster", (x, i) -> x.comesFor(i, 3));
        Edge.oysters("20: an oyster", (x, i) -> x.coldFor(i, 3));
        Edge.oysters("21: an oyster", (x, i) -> x.room(i, 3, 3));
    }

    /** These acts ask what would be: nothing changes by their answers. */
    private static void nothingChanges() {
        Edge.changesNothing("16: sow", Edge::busy, x -> x.sow(6, 40));
        Edge.changesNothing("17: kindFor", Edge::busy, x -> x.kindFor(6, 40));
        Edge.changesNothing("18: weightFor", Edge::busy, x -> x.weightFor(2, 40));
        Edge.changesNothing("19: comesFor", Edge::busy, x -> x.comesFor(1, 40));
        Edge.changesNothing("20: coldFor", Edge::busy, x -> x.coldFor(0, 40));
        Edge.changesNothing("21: room", Edge::busy, x -> x.room(3, 30, 20));
        Edge.refused("18: NONE", Edge::busy, x -> x.weightFor(6, 0), Due.NONE);
        Edge.refused("19: NONE", Edge::busy, x -> x.comesFor(2, 40), Due.NONE);
        Edge.refused("20: NONE", Edge::busy, x -> x.coldFor(3, 40), Due.NONE);
        Edge.refused("21: NONE", Edge::busy, x -> x.room(3, 999, 20), Due.NONE);
    }

    /** Promise 16: the first bed and the last; behind no year all do. */
    private static void sowEnds() {
        for (int b = 0; b < 6; b++) {
            OysterSecrets x = new OysterSecrets();
            x.comes(0);
            for (int other = 0; other < 6; other++) {
                x.bed(other, 0, other == b ? 6 : 5);
            }
            x.oyster(0, 3);
            Due.due("16: 6 in bed " + b + " alone", x.sow(0, 1), b);
            Due.due("16: behind no year", x.sow(0, 0), 0);
            x.change(0, LAYERS, 994);
            Due.due("16: 999 in each", x.sow(0, 1), 0);
            x.change(0, LAYERS, 993);
            Due.due("16: 999 in one", x.sow(0, 1), b);
        }
    }

    /** Promise 16: "behind n (0 to 40) YEARS": the 40th counts. */
    private static void sowInTheLastYear() {
        OysterSecrets x = new OysterSecrets();
        x.comes(0);
        for (int b = 0; b < 6; b++) {
            x.bed(b, 0, b == 4 ? 235 : 234);
        }
        x.oyster(0, 0);
        Due.due("16: 39 years take 234 anywhere", x.sow(0, 39), 0);
        Due.due("16: the 40th finds one more in bed 4", x.sow(0, 40), 4);
    }

    /** Promise 17: of kinds that do the least, from 0 to 6; told ones are all worth nothing. */
    private static void kindForEnds() {
        OysterSecrets x = new OysterSecrets();
        x.oyster(3, 0);
        x.change(0, WEIGHT, 0);
        Due.due("17: told", x.kindFor(0, 40), 0);
        x.change(0, WEIGHT, 1);
        Due.due("17: a black one by its weight of 1", x.kindFor(0, 0), 1);
        x.change(0, LAYERS, 1);
        Due.due("17: a dear one by 3 times 1", x.kindFor(0, 0), DEAR);
        x.change(0, WEIGHT, 2);
        Due.due("17: a black one with 3 of 3", x.kindFor(0, 0), 1);
        x.change(0, LAYERS, 0);
        x.change(0, WEIGHT, 99);
        Due.due("17: a minister behind one year: 30 and 99", x.kindFor(0, 1), MINISTER);
        x.change(0, SHOWN, 1);
        Due.due("17: 10 less for 1 shown: 119", x.kindFor(0, 1), MINISTER);
        x.change(0, SHOWN, 2);
        Due.due("17: 10 less for 2 shown: 109 is less than 15 and 99", x.kindFor(0, 1), 1);
    }

    /** Promise 18: "The greatest WEIGHT (1 to 99)": never 0, never 100, NONE below 1 */
    private static void weightForEnds() {
        OysterSecrets x = new OysterSecrets();
        x.oyster(0, 0);
        int[][] rows = {{0, Due.NONE}, {1, 1}, {2, 2}, {98, 98}, {99, 99}, {100, 99}, {999, 99}};
        for (int[] row : rows) {
            x.change(0, LAYERS, row[0]);
            Due.due("18: of " + row[0] + " layers", x.weightFor(0, 0), row[1]);
        }
        x.change(0, KIND, MINISTER);
        int[][] minister = {{11, Due.NONE}, {12, 1}, {13, 1}, {14, 2}, {207, 98}, {208, 99}, {209, 99}};
        for (int[] row : minister) {
            x.change(0, LAYERS, row[0]);
            Due.due("18: a minister of " + row[0] + " layers", x.weightFor(0, 0), row[1]);
        }
        x.change(0, KIND, 2);
        x.change(0, LAYERS, 0);
        Due.due("18: a seed one of no layers", x.weightFor(0, 0), 1);
        x.change(0, LAYERS, 1);
        Due.due("18: a seed one of 1 layer", x.weightFor(0, 0), 3);
    }

    /** Promise 18: of a told one, too; and that which it would be told of by then isn't hidden. */
    private static void weightForOfTold() {
        OysterSecrets x = new OysterSecrets();
        x.bed(0, 0, 0);
        x.bed(0, 1, 0);
        x.comes(0);
        x.oyster(0, 0);
        x.change(0, WEIGHT, 0);
        Due.due("18: with no layers none is hidden now", x.weightFor(0, 0), Due.NONE);
        Due.due("18: nor in 40 years", x.weightFor(0, 40), Due.NONE);
        x.change(0, LAYERS, 1);
        Due.due("18: 99 is 1 behind 14 years", x.weightFor(0, 14), 99);
        Due.due("18: 99 and 92 are less than 15 too much", x.weightFor(0, 13), 92);
    }

    /** Promise 19: "The least COMES (0 to 99)": 0, 99, and NONE beyond */
    private static void comesForEnds() {
        OysterSecrets x = new OysterSecrets();
        x.bed(0, 0, 0);
        for (int i = 0; i < 3; i++) {
            x.oyster(MINISTER, 0);
            x.change(i, WEIGHT, 99);
        }
        x.oyster(DEAR, 0);
        x.change(3, WEIGHT, 15);
        x.change(3, AGE, 90);
        int[][] rows = {{10, 0}, {9, 91}, {2, 98}, {1, 99}, {0, Due.NONE}};
        for (int[] row : rows) {
            x.change(3, LAYERS, row[0]);
            Due.due("19: behind 90 that others take, with " + row[0] + " layers", x.comesFor(3, 2), row[1]);
        }
        x.change(3, LAYERS, 9);
        Due.due("19: nothing comes behind no year", x.comesFor(3, 0), Due.NONE);
        Due.due("19: nor in time behind one", x.comesFor(3, 1), Due.NONE);
        x.change(3, LAYERS, 10);
        Due.due("19: hidden now", x.comesFor(3, 0), 0);
    }

    /** Promise 20: "The least COLD (0 to 9)": 0, 9, and NONE beyond */
    private static void coldForEnds() {
        OysterSecrets x = new OysterSecrets();
        x.oyster(POOR, 0);
        int[][] rows = {{4, 0}, {5, 0}, {6, 1}, {7, 1}, {20, 8}, {22, 9}, {23, 9}, {24, Due.NONE}, {99, Due.NONE}};
        for (int[] row : rows) {
            x.change(0, WEIGHT, row[0]);
            Due.due("20: a poor one of " + row[0], x.coldFor(0, 1), row[1]);
        }
        Due.due("20: behind no year", x.coldFor(0, 0), 0);
        x.change(0, WEIGHT, 0);
        Due.due("20: a told one", x.coldFor(0, 40), 0);
    }

    /** Promise 20: "with which its SHOWN is as now": at 998 it can be more, at 999 it can't */
    private static void coldForOfMostShown() {
        OysterSecrets x = new OysterSecrets();
        x.oyster(0, 0);
        x.change(0, SHOWN, 998);
        Due.due("20: 998 would be 999", x.coldFor(0, 1), 3);
        x.change(0, SHOWN, 999);
        Due.due("20: 999 stays", x.coldFor(0, 1), 0);
    }

    /** Promise 21: from the empty set to all seven others; then NONE. */
    private static void roomOfNoneAndAll() {
        OysterSecrets x = new OysterSecrets();
        x.bed(0, 0, 6);
        x.comes(0);
        for (int i = 0; i < 8; i++) {
            x.oyster(0, 0);
        }
        Due.due("21: of oyster 0 none", x.room(0, 6, 1), 0);
        for (int i = 1; i < 8; i++) {
            Due.due("21: of oyster " + i + " all below it", x.room(i, 6, 1), (1 << i) - 1);
            Due.due("21: of oyster " + i + " for 7", x.room(i, 7, 20), Due.NONE);
            Due.due("21: of oyster " + i + " for 0", x.room(i, 0, 20), 0);
        }
        OysterSecrets lone = new OysterSecrets();
        lone.oyster(0, 0);
        Due.due("21: with no others, for what it takes", lone.room(0, 6, 1), 0);
        Due.due("21: with no others, for more", lone.room(0, 7, 1), Due.NONE);
    }

    /** Promise 21: "v (0 to 999) LAYERS or more": just so many, one fewer, and the most that there are */
    private static void roomOrMore() {
        OysterSecrets x = new OysterSecrets();
        x.oyster(0, 0);
        int[][] rows = {{999, 999, 0}, {998, 999, Due.NONE}, {998, 998, 0}, {1, 0, 0}, {0, 0, 0}, {0, 1, Due.NONE}};
        for (int[] row : rows) {
            x.change(0, LAYERS, row[0]);
            Due.due("21: " + row[1] + " of " + row[0] + " now", x.room(0, row[1], 0), row[2]);
        }
        x.change(0, LAYERS, 993);
        Due.due("21: 999 of 993 behind one year", x.room(0, 999, 1), 0);
        x.change(0, LAYERS, 992);
        Due.due("21: 999 of 992 behind one year", x.room(0, 999, 1), Due.NONE);
        x.change(0, LAYERS, 0);
        Due.due("21: 120 behind 20 years", x.room(0, 120, 20), 0);
        Due.due("21: 121 behind 20 years", x.room(0, 121, 20), Due.NONE);
    }

    /** Promise 21: "The set of fewest other OYSTERS ..; of several the least." */
    private static void roomOfFewest() {
        OysterSecrets x = new OysterSecrets();
        x.bed(0, 0, 18);
        x.comes(0);
        x.oyster(2, 0);
        x.oyster(2, 0);
        x.oyster(0, 0);
        x.oyster(0, 0);
        x.oyster(0, 0);
        Due.due("21: 6 by one of 6, not two of 3", x.room(4, 6, 1), 4);
        Due.due("21: 3 by one of 3, the least", x.room(4, 3, 1), 1);
        Due.due("21: 0 by none", x.room(4, 0, 1), 0);
    }

    /** Promise 21: "other OYSTERS": those of higher numbers, too, which take in the years before */
    private static void roomOfThoseBehind() {
        OysterSecrets x = new OysterSecrets();
        x.bed(0, 0, 48);
        x.comes(0);
        for (int i = 0; i < 8; i++) {
            x.oyster(0, 0);
        }
        Due.due("21: 6 of 48 in any case", x.room(3, 6, 2), 0);
        Due.due("21: 6 more by two: what they leave comes to 2, then to 3", x.room(3, 12, 2), 1 + 2);
        Due.due("21: 48 by all seven others", x.room(3, 48, 8), 255 - 8);
        Due.due("21: not more", x.room(3, 49, 20), Due.NONE);
        Due.due("21: oyster 0 by the next", x.room(0, 7, 2), 2);
        Due.due("21: and oyster 0's 12", x.room(0, 12, 2), 2);
        Due.due("21: oyster 7 by four: what they leave comes to 4, 5, 6, then to 7", x.room(7, 12, 2), 15);
    }

    public static void main(String[] args) {
        years();
        noOysters();
        nothingChanges();
        sowEnds();
        sowInTheLastYear();
        kindForEnds();
        weightForEnds();
        weightForOfTold();
        comesForEnds();
        coldForEnds();
        coldForOfMostShown();
        roomOfNoneAndAll();
        roomOrMore();
        roomOfFewest();
        roomOfThoseBehind();
        Due.end();
    }
}
