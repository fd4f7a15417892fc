/** The edges of promises 11 to 15: what will be (nothing changes). */
public final class EdgeAheadTest {
    private static final int WEIGHT = 2;
    private static final int LAYERS = 3;
    private static final int SHOWN = 5;
    private static final int MOON = 4;
    private static final int MINISTER = 6;

    /** One oyster in bed 0, which has no nacre at first, and so much comes. */
    private static OysterSecrets alone(int kind, int cold, int comes) {
        OysterSecrets x = new OysterSecrets();
        x.comes(comes);
        x.bed(0, 0, 0);
        x.bed(0, 1, cold);
        x.oyster(kind, 0);
        return x;
    }

    /** Promise 11: "WEIGHT (what 2), LAYERS (3), SHOWN (5)": no other what */
    private static void aheadWhats() {
        for (int what : new int[] {2, 3, 5}) {
            Edge.taken("11: what " + what, Edge::busy, x -> x.ahead(1, what, 5));
        }
        for (int what : new int[] {Integer.MIN_VALUE, -1, 0, 1, 4, 6, 7, 8, 9, Integer.MAX_VALUE}) {
            Edge.refused("11: what " + what, Edge::busy, x -> x.ahead(1, what, 5), Due.BEYOND);
        }
    }

    /** Promise 11: "behind n (0 to 100) YEARS" */
    private static void aheadYears() {
        for (int what : new int[] {2, 3, 5}) {
            Edge.within("11: n of what " + what, Edge::busy, (x, n) -> x.ahead(1, what, n), 0, 100);
        }
        OysterSecrets x = alone(0, 9, 99);
        Due.due("11: behind 0 years", x.ahead(0, LAYERS, 0), 0);
        Due.due("11: behind 1 year", x.ahead(0, LAYERS, 1), 0);
        Due.due("11: behind 2 years", x.ahead(0, LAYERS, 2), 6);
        Due.due("11: behind 99 years", x.ahead(0, LAYERS, 99), 588);
        Due.due("11: behind 100 years", x.ahead(0, LAYERS, 100), 594);
        x.change(0, LAYERS, 405);
        Due.due("11: 405 and 594", x.ahead(0, LAYERS, 100), 999);
        x.change(0, LAYERS, 404);
        Due.due("11: 404 and 594", x.ahead(0, LAYERS, 100), 998);
        x.change(0, LAYERS, 999);
        Due.due("11: 999 at most", x.ahead(0, LAYERS, 100), 999);
    }

    /** Promise 11: WEIGHT down to 0, SHOWN up to 999. */
    private static void aheadToTheEnds() {
        OysterSecrets x = alone(0, 0, 0);
        x.change(0, WEIGHT, 99);
        Due.due("11: 14 times 7 less", x.ahead(0, WEIGHT, 14), 1);
        Due.due("11: 0 at least", x.ahead(0, WEIGHT, 15), 0);
        Due.due("11: 0 ever after", x.ahead(0, WEIGHT, 100), 0);
        Due.due("11: shown no more then", x.ahead(0, SHOWN, 100), 15);
        x.change(0, SHOWN, 985);
        Due.due("11: 14 times shown", x.ahead(0, SHOWN, 14), 999);
        Due.due("11: 999 at most", x.ahead(0, SHOWN, 15), 999);
    }

    /** Promises 11 to 15: of no OYSTER is BEYOND. */
    private static void noOysters() {
        Edge.oysters("11: an oyster", (x, i) -> x.ahead(i, LAYERS, 1));
        Edge.oysters("12: an oyster", (x, i) -> x.worth(i, 1));
        Edge.oysters("13: an oyster", (x, i) -> x.hidden(i));
        Edge.oysters("14: an oyster", (x, i) -> x.told(i));
        Edge.oysters("15: an oyster", (x, i) -> x.dive(i));
    }

    /** "what will be (nothing changes)" */
    private static void nothingChanges() {
        for (int what : new int[] {2, 3, 5}) {
            Edge.changesNothing("11: what " + what, Edge::busy, x -> x.ahead(3, what, 100));
        }
        Edge.changesNothing("12: worth(6, 100)", Edge::busy, x -> x.worth(6, 100));
        Edge.changesNothing("13: hidden(1)", Edge::busy, x -> x.hidden(1));
        Edge.changesNothing("14: told(2)", Edge::busy, x -> x.told(2));
        Edge.changesNothing("15: dive(5)", Edge::busy, x -> x.dive(5));
        Edge.refused("13: NONE of a told one", Edge::busy, x -> x.hidden(2), Due.NONE);
        Edge.refused("14: NONE of one that is hidden", Edge::busy, x -> x.told(0), Due.NONE);
    }

    /** Promise 12: "behind n (0 to 100) YEARS" */
    private static void worthYears() {
        Edge.within("12: n", Edge::busy, (x, n) -> x.worth(1, n), 0, 100);
        OysterSecrets x = alone(0, 9, 99);
        Due.due("12: behind 0 years", x.worth(0, 0), 0);
        Due.due("12: behind 2 years", x.worth(0, 2), 6);
        Due.due("12: behind 100 years", x.worth(0, 100), 594);
        x.change(0, LAYERS, 7);
        Due.due("12: behind 0 years", x.worth(0, 0), 7);
    }

    /** Promise 12: of one that is told by then it is 0, in the year before it isn't. */
    private static void worthOfOneTold() {
        OysterSecrets x = alone(1, 0, 0);
        x.change(0, WEIGHT, 14);
        Due.due("12: not told yet", x.worth(0, 1), 7);
        Due.due("12: told", x.worth(0, 2), 0);
    }

    /** Promise 13: "Behind how many YEARS (0 to 200, the fewest) it is hidden. .. NONE." */
    private static void hiddenYears() {
        OysterSecrets x = alone(MINISTER, 9, 1);
        int[][] rows = {{94, 199}, {95, 0}};
        x.change(0, WEIGHT, rows[0][0]);
        Due.due("13: 198 needed, one a year from the second on", x.hidden(0), rows[0][1]);
        x.change(0, WEIGHT, 95);
        x.change(0, LAYERS, 1);
        Due.due("13: 200 needed, 1 there", x.hidden(0), 200);
        x.change(0, LAYERS, 0);
        Due.due("13: 200 needed, behind 201", x.hidden(0), Due.NONE);
        x.change(0, LAYERS, 199);
        Due.due("13: 199 of 200", x.hidden(0), 2);
        x.change(0, LAYERS, 200);
        Due.due("13: 200 of 200, at once", x.hidden(0), 0);
        x.change(0, WEIGHT, 0);
        Due.due("13: never, if it is told", x.hidden(0), Due.NONE);
        x.change(0, WEIGHT, 95);
        x.change(0, LAYERS, 0);
        x.comes(0);
        Due.due("13: never, if nothing comes", x.hidden(0), Due.NONE);
    }

    /** Promise 13: one that is told before it would be hidden never is. */
    private static void toldBeforeHidden() {
        OysterSecrets x = alone(0, 0, 1);
        x.change(0, WEIGHT, 7);
        Due.due("13: told in its first year", x.hidden(0), Due.NONE);
        x.change(0, WEIGHT, 8);
        Due.due("13: of 1 in its second", x.hidden(0), 2);
    }

    /** Promise 14: "Behind how many YEARS (0 to 200, the fewest) it is told. .. NONE." */
    private static void toldYears() {
        OysterSecrets x = alone(0, 0, 0);
        int[][] rows = {{0, 0}, {1, 1}, {7, 1}, {8, 2}, {14, 2}, {15, 3}, {98, 14}, {99, 15}};
        for (int[] row : rows) {
            x.change(0, WEIGHT, row[0]);
            Due.due("14: of weight " + row[0], x.told(0), row[1]);
        }
        x.bed(0, 1, 2);
        Due.due("14: in a cold of 2", x.told(0), 15);
        x.bed(0, 1, 3);
        Due.due("14: in a cold of 3", x.told(0), Due.NONE);
    }

    // A year shows 7 of 99 at most, a moon one each third year: none is told behind more years than 42.
    private static void theLatestTold() {
        OysterSecrets x = alone(MOON, 0, 0);
        int latest = 0;
        for (int weight = 1; weight < 100; weight++) {
            x.change(0, WEIGHT, weight);
            latest = Math.max(latest, x.told(0));
        }
        Due.due("14: the latest that there is", latest, 42);
        x.change(0, WEIGHT, 99);
        Due.due("14: of 99 the last 1 is hidden", x.told(0), Due.NONE);
    }

    /** Promise 15: "(0 to 60, the fewest) its WORTH is greatest (of those 0 to 60)" */
    private static void diveYears() {
        OysterSecrets x = alone(0, 9, 99);
        int[][] rows = {{0, 60}, {644, 60}, {645, 60}, {650, 60}, {651, 59}, {652, 59}, {993, 2}, {998, 2}, {999, 0}};
        for (int[] row : rows) {
            x.change(0, LAYERS, row[0]);
            Due.due("15: of " + row[0] + " layers", x.dive(0), row[1]);
        }
        x.change(0, WEIGHT, 0);
        Due.due("15: of a told one all do", x.dive(0), 0);
        x.change(0, WEIGHT, 10);
        x.change(0, LAYERS, 5);
        x.comes(0);
        Due.due("15: of one that gets nothing all do", x.dive(0), 0);
    }

    public static void main(String[] args) {
        aheadWhats();
        aheadYears();
        aheadToTheEnds();
        noOysters();
        nothingChanges();
        worthYears();
        worthOfOneTold();
        hiddenYears();
        toldBeforeHidden();
        toldYears();
        theLatestTold();
        diveYears();
        Due.end();
    }
}
