/** The edges of years: those of the document's Terms 2, and of promises 9 and 10. */
public final class EdgeYearsTest {
    private static final int WEIGHT = 2;
    private static final int LAYERS = 3;
    private static final int AGE = 4;
    private static final int SHOWN = 5;
    private static final int POOR = 3;
    private static final int MOON = 4;
    private static final int DEAR = 5;
    private static final int MINISTER = 6;

    /** One oyster in bed 0, where no nacre comes. */
    private static OysterSecrets alone(int kind, int nacre, int cold) {
        OysterSecrets x = new OysterSecrets();
        x.comes(0);
        x.bed(0, 0, nacre);
        x.bed(0, 1, cold);
        x.oyster(kind, 0);
        return x;
    }

    /** (1) "one that isn't told TAKES (no more NACRE than its BED has)" */
    private static void noMoreThanThereIs() {
        int[][] rows = {{7, 6, 1}, {6, 6, 0}, {5, 5, 0}, {1, 1, 0}, {0, 0, 0}};
        for (int[] row : rows) {
            OysterSecrets x = alone(0, row[0], 9);
            Due.due("Year 1: layers from a nacre of " + row[0], x.go(1), row[1]);
            Due.due("Year 1: nacre left of " + row[0], x.bedOf(0, 0), row[2]);
        }
    }

    /** (1) "OYSTERS by numbers": the lower number takes first, all that there is. */
    private static void byNumbers() {
        int[][] rows = {{12, 6, 6}, {11, 6, 5}, {7, 6, 1}, {6, 6, 0}, {5, 5, 0}, {0, 0, 0}};
        for (int[] row : rows) {
            OysterSecrets x = alone(0, row[0], 9);
            x.oyster(0, 0);
            x.go(1);
            Due.due("Year 1: oyster 0 of a nacre of " + row[0], x.of(0, LAYERS), row[1]);
            Due.due("Year 1: oyster 1 of a nacre of " + row[0], x.of(1, LAYERS), row[2]);
        }
    }

    /** (1) "one that isn't told": of weight 1 it takes, of weight 0 it doesn't. */
    private static void toldOnesTakeNothing() {
        OysterSecrets x = alone(0, 50, 9);
        x.change(0, WEIGHT, 1);
        Due.due("Year 1: of weight 1", x.go(1), 6);
        x.change(0, WEIGHT, 0);
        Due.due("Year 1: of weight 0", x.go(60), 6);
        Due.due("Year 1: nacre is left", x.bedOf(0, 0), 44);
    }

    /** (1) "LAYERS are so much more (999 at most)" */
    private static void layersAtMost() {
        int[][] rows = {{992, 998}, {993, 999}, {994, 999}, {998, 999}, {999, 999}};
        for (int[] row : rows) {
            OysterSecrets x = alone(0, 50, 9);
            x.change(0, LAYERS, row[0]);
            Due.due("Year 1: 6 more than " + row[0], x.go(1), row[1]);
            Due.due("Year 1: it takes what it takes at " + row[0], x.bedOf(0, 0), 44);
        }
    }

    /** (1) it takes with the AGE and the WEIGHT that it has before (2) and (3) change them. */
    private static void takesAsItWas() {
        OysterSecrets moon = alone(MOON, 50, 9);
        Due.due("Year 1: a moon one of age 0", moon.go(1), 2);
        Due.due("Year 1: a moon one of age 1", moon.go(1), 2);
        Due.due("Year 1: a moon one of age 2", moon.go(1), 4);
        OysterSecrets dear = alone(DEAR, 50, 9);
        dear.change(0, AGE, 9);
        Due.due("Year 1: a dear one of age 9", dear.go(1), 6);
        Due.due("Year 1: a dear one of age 10", dear.go(1), 13);
        OysterSecrets black = alone(1, 50, 0);
        black.change(0, WEIGHT, 50);
        Due.due("Year 1: a black one of weight 50", black.go(1), 11);
        Due.due("Year 2: then it is 7 less", black.of(0, WEIGHT), 43);
        Due.due("Year 1: a black one of weight 43", black.go(1), 21);
    }

    /** (2) "has fewer LAYERS than it NEEDS": on both sides, with this year's layers. */
    private static void fewerThanItNeeds() {
        int[][] rows = {{3, 1}, {4, 0}, {5, 0}};
        for (int[] row : rows) {
            OysterSecrets x = alone(0, 6, 0);
            x.change(0, LAYERS, row[0]);
            x.go(1);
            Due.due("Year 2: 10 needed, 6 and " + row[0] + " there: shown", x.of(0, SHOWN), row[1]);
            Due.due("Year 2: its weight then", x.of(0, WEIGHT), 10 - 7 * row[1]);
        }
    }

    /** (2) "and OPENS": with COLD on both sides of 3. */
    private static void inItsCold() {
        for (int cold = 0; cold < 10; cold++) {
            OysterSecrets x = alone(0, 0, cold);
            x.go(1);
            Due.due("Year 2: shown in a cold of " + cold, x.of(0, SHOWN), cold < 3 ? 1 : 0);
        }
    }

    /** (2) BLACK: never above 50; MINISTER: never. */
    private static void tooHeavyToShow() {
        for (int weight : new int[] {50, 51}) {
            OysterSecrets x = alone(1, 0, 0);
            x.change(0, WEIGHT, weight);
            x.go(1);
            Due.due("Year 2: a black one of " + weight, x.of(0, WEIGHT), weight == 50 ? 43 : 51);
        }
        OysterSecrets minister = alone(MINISTER, 0, 0);
        minister.go(60);
        Due.due("Year 2: a minister in 60 years", minister.of(0, SHOWN), 0);
    }

    /** (2) a MOON one shows in a year that leaves 2 by 3, before YEAR is one more. */
    private static void moonYears() {
        OysterSecrets x = alone(MOON, 0, 9);
        x.change(0, WEIGHT, 99);
        int[] shown = {0, 0, 1, 1, 1, 2, 2, 2, 3};
        for (int year = 0; year < shown.length; year++) {
            x.go(1);
            Due.due("Year 2: a moon one behind year " + year, x.of(0, SHOWN), shown[year]);
        }
    }

    /** (2) "SHOWN is 1 more (999 at most)" */
    private static void shownAtMost() {
        int[][] rows = {{0, 1}, {997, 998}, {998, 999}, {999, 999}};
        for (int[] row : rows) {
            OysterSecrets x = alone(0, 0, 0);
            x.change(0, SHOWN, row[0]);
            x.go(1);
            Due.due("Year 2: 1 more than " + row[0], x.of(0, SHOWN), row[1]);
            Due.due("Year 2: its weight at " + row[0], x.of(0, WEIGHT), 3);
        }
    }

    /** (2) "its WEIGHT is 7 less (0 at least)" */
    private static void weightAtLeast() {
        int[][] rows = {{99, 92}, {8, 1}, {7, 0}, {6, 0}, {1, 0}};
        for (int[] row : rows) {
            OysterSecrets x = alone(0, 0, 0);
            x.change(0, WEIGHT, row[0]);
            x.go(1);
            Due.due("Year 2: 7 less than " + row[0], x.of(0, WEIGHT), row[1]);
            Due.due("Year 2: told of " + row[0], x.count(2), row[1] == 0 ? 1 : 0);
        }
    }

    /** (2) "one that isn't told": a told one shows no more. */
    private static void toldOnesShowNoMore() {
        for (int kind = 0; kind < 7; kind++) {
            OysterSecrets x = alone(kind, 0, 0);
            x.change(0, WEIGHT, 0);
            x.go(6);
            Due.due("Year 2: a told one of kind " + kind, x.of(0, SHOWN) + x.of(0, WEIGHT), 0);
            Due.due("Year 3: gets older all the same", x.of(0, AGE), 6);
        }
    }

    /** (3) "AGE of all is 1 more (999 at most)" */
    private static void ageAtMost() {
        int[][] rows = {{0, 1}, {997, 998}, {998, 999}, {999, 999}};
        for (int[] row : rows) {
            OysterSecrets x = alone(0, 0, 9);
            x.change(0, AGE, row[0]);
            x.go(1);
            Due.due("Year 3: 1 more than " + row[0], x.of(0, AGE), row[1]);
        }
    }

    /** (4) "NACRE of all BEDS is COMES more (999 at most)" */
    private static void nacreAtMost() {
        int[][] rows = {{978, 20, 998}, {979, 20, 999}, {980, 20, 999}, {999, 20, 999}, {899, 99, 998}, {900, 99, 999},
            {901, 99, 999}, {500, 0, 500}, {0, 99, 99}, {999, 0, 999}};
        for (int[] row : rows) {
            OysterSecrets x = new OysterSecrets();
            x.comes(row[1]);
            for (int b = 0; b < 6; b++) {
                x.bed(b, 0, row[0]);
            }
            x.go(1);
            for (int b = 0; b < 6; b++) {
                Due.due("Year 4: " + row[1] + " more than " + row[0] + " in bed " + b, x.bedOf(b, 0), row[2]);
            }
        }
    }

    /** (4) comes behind (1): what comes this year can be taken next year alone. */
    private static void nacreComesLast() {
        int[][] rows = {{984, 998}, {985, 999}, {986, 999}, {999, 999}};
        for (int[] row : rows) {
            OysterSecrets x = alone(0, row[0], 9);
            x.comes(20);
            x.go(1);
            Due.due("Year 4: 6 less and 20 more than " + row[0], x.bedOf(0, 0), row[1]);
        }
        OysterSecrets x = alone(0, 0, 9);
        x.comes(20);
        Due.due("Year 4: nothing this year", x.go(1), 0);
        Due.due("Year 4: 6 in the next", x.go(1), 6);
    }

    /** "YEAR is one more (99999 at most)": what goes on behind it is told by ahead() alone. */
    private static void yearAtMost() {
        Edge.Maker eve = () -> {
            OysterSecrets x = Edge.inYear(99998);
            x.comes(0);
            x.bed(0, 0, 0);
            x.oyster(MOON, 0);
            x.change(0, WEIGHT, 90);
            return x;
        };
        Due.due("Year: 99998 leaves 2 by 3", eve.make().ahead(0, SHOWN, 1), 1);
        Due.due("Year: 99999 is the year ever after", eve.make().ahead(0, SHOWN, 100), 1);
        OysterSecrets x = eve.make();
        Due.due("Year: the last one goes by", x.go(1), 0);
        Due.due("Year: it is 99999", x.now(0), 99999);
        Edge.refused("9: YEAR would be 100000", () -> Edge.inYear(99999), y -> y.go(1), Due.STATE);
        Edge.changesNothing("11: behind 99999 years", () -> {
            OysterSecrets y = eve.make();
            y.go(1);
            return y;
        }, y -> y.ahead(0, LAYERS, 100));
    }

    /** "ALIKE by v: two whose LAYERS differ by no more than v." */
    private static void alike() {
        OysterSecrets x = Edge.full();
        x.change(0, LAYERS, 500);
        x.change(1, LAYERS, 507);
        x.change(2, LAYERS, 493);
        Due.due("ALIKE: by 6 neither", x.alike(0, 6), 1);
        Due.due("ALIKE: by 7 the more and the less", x.alike(0, 7), 7);
        Due.due("ALIKE: 14 apart, by 13", x.alike(2, 13), 5);
        Due.due("ALIKE: 14 apart, by 14", x.alike(2, 14), 7);
        Due.due("ALIKE: 507 apart, by 506", x.alike(1, 506), 7);
        Due.due("ALIKE: 507 apart, by 507", x.alike(1, 507), 255);
    }

    /** "z is told (1 at first); each makes it z * 1103515245 + 12345 (an int), and gives z >>> 8": z wraps round. */
    private static void draws() {
        for (int z : new int[] {1, 0, -1, Integer.MAX_VALUE, Integer.MIN_VALUE, 1946, 1947}) {
            OysterSecrets x = new OysterSecrets();
            x.seed(z);
            x.storms(1);
            int first = z * 1103515245 + 12345;
            Due.due("DRAWS: z behind two of them from " + z, x.count(6), first * 1103515245 + 12345);
        }
        OysterSecrets x = Edge.full();
        int z = 0;
        while (z * 1103515245 + 12345 >= 0) {
            z++;
        }
        int first = z * 1103515245 + 12345;
        int second = first * 1103515245 + 12345;
        x.seed(z);
        x.storms(1);
        int drawn = (int) ((first & 0xffffffffL) / 256 % 8);
        Due.due("DRAWS: of a z below 0 it gives a number above", x.of(drawn, 1), (second & 0xffffffffL) / 256 % 6);
    }

    /** Promise 9: "n YEARS (1 to 60)" */
    private static void oneToSixty() {
        Edge.within("9: n", Edge::busy, (x, n) -> x.go(n), 1, 60);
        Edge.within("9: n, with no oysters", Edge::fresh, (x, n) -> x.go(n), 1, 60);
        OysterSecrets x = new OysterSecrets();
        x.oyster(0, 0);
        Due.due("9: go(1)", x.go(1), 6);
        Due.due("9: the year then", x.now(0), 1);
        Due.due("9: go(60)", x.go(60), 366);
        Due.due("9: the year then", x.now(0), 61);
    }

    /** Promise 9: "LAYERS of all together then": of none, of one, of the most. */
    private static void allTogether() {
        Due.due("9: with no oysters", new OysterSecrets().go(60), 0);
        OysterSecrets x = Edge.full();
        for (int i = 0; i < 8; i++) {
            x.change(i, LAYERS, 999);
        }
        Due.due("9: the most", x.go(60), 7992);
    }

    /** Promise 9: "STATE: YEAR would be above 99999." */
    private static void noYearAbove() {
        Due.due("9: from 99939 on 60", Edge.inYear(99939).go(60), 0);
        Edge.refused("9: from 99940 on 60", () -> Edge.inYear(99940), x -> x.go(60), Due.STATE);
        Due.due("9: from 99998 on 1", Edge.inYear(99998).go(1), 0);
        Edge.refused("9: from 99998 on 2", () -> Edge.inYear(99998), x -> x.go(2), Due.STATE);
    }

    /** Promise 10: what 0 to 6, and no other. */
    private static void nowWhats() {
        Edge.within("10: what", Edge::busy, (x, what) -> x.now(what), 0, 6);
        Edge.within("10: what, with no oysters", Edge::fresh, (x, what) -> x.now(what), 0, 6);
        for (int what = 0; what < 7; what++) {
            int w = what;
            Edge.changesNothing("10: now(" + what + ")", Edge::busy, x -> x.now(w));
        }
    }

    /** Promise 10: with no oysters, and with the most that there can be. */
    private static void leastAndMost() {
        int[] least = {0, 0, 0, 0, 600, 0, 0};
        OysterSecrets none = new OysterSecrets();
        OysterSecrets most = new OysterSecrets();
        for (int i = 0; i < 8; i++) {
            most.oyster(DEAR, 5);
            most.change(i, LAYERS, 999);
            most.change(i, SHOWN, 999);
        }
        for (int b = 0; b < 6; b++) {
            most.bed(b, 0, 999);
        }
        int[] greatest = {0, 7992, 0, 255, 5994, 23976, 7992};
        for (int what = 0; what < 7; what++) {
            Due.due("10: of none now(" + what + ")", none.now(what), least[what]);
            Due.due("10: of the most now(" + what + ")", most.now(what), greatest[what]);
        }
    }

    /** Promise 10: "HIDDEN (not told, and no fewer LAYERS than they NEED)" */
    private static void hiddenOnBothSides() {
        OysterSecrets x = new OysterSecrets();
        x.oyster(0, 0);
        x.change(0, LAYERS, 9);
        Due.due("10: 9 of 10", x.now(3), 0);
        x.change(0, LAYERS, 10);
        Due.due("10: 10 of 10", x.now(3), 1);
        x.change(0, WEIGHT, 0);
        Due.due("10: told", x.now(3), 0);
        x.change(0, 0, POOR);
        x.change(0, LAYERS, 0);
        x.change(0, WEIGHT, 7);
        Due.due("10: none needed, none there", x.now(3), 1);
        x.change(0, WEIGHT, 8);
        Due.due("10: 1 needed, none there", x.now(3), 0);
    }

    public static void main(String[] args) {
        noMoreThanThereIs();
        byNumbers();
        toldOnesTakeNothing();
        layersAtMost();
        takesAsItWas();
        fewerThanItNeeds();
        inItsCold();
        tooHeavyToShow();
        moonYears();
        shownAtMost();
        weightAtLeast();
        toldOnesShowNoMore();
        ageAtMost();
        nacreAtMost();
        nacreComesLast();
        yearAtMost();
        alike();
        draws();
        oneToSixty();
        allTogether();
        noYearAbove();
        nowWhats();
        leastAndMost();
        hiddenOnBothSides();
        Due.end();
    }
}
