/** The edges of promises 29 to 31: storms. */
public final class EdgeStormsTest {
    private static final int LAYERS = 3;
    private static final int BED = 1;

    private static int next(int z) {
        return z * 1103515245 + 12345;
    }

    private static int draw(int z) {
        return z >>> 8;
    }

    /** A z from which the first draw leaves an oyster by 8, and the second a bed by 6. */
    private static int seedFor(int oyster, int bed) {
        int z = 0;
        while (draw(next(z)) % 8 != oyster || draw(next(next(z))) % 6 != bed) {
            z++;
        }
        return z;
    }

    /** Promise 29: "n times (1 to 20)" */
    private static void oneToTwenty() {
        Edge.within("29: n", Edge::busy, (x, n) -> x.storms(n), 1, 20);
        Edge.within("29: n, with no oysters", Edge::fresh, (x, n) -> x.storms(n), 1, 20);
        OysterSecrets x = new OysterSecrets();
        Due.due("29: storms(1)", x.storms(1), 0);
        Due.due("29: one year", x.now(0), 1);
        Due.due("29: two draws", x.count(6), next(next(1)));
        Due.due("29: storms(20)", x.storms(20), 0);
        Due.due("29: 20 more", x.now(0), 21);
        int z = 1;
        for (int i = 0; i < 42; i++) {
            z = next(z);
        }
        Due.due("29: 40 more draws", x.count(6), z);
    }

    /** Promise 29: "the OYSTER of the first one's rest by 8, if there is one": each rest, with seven and with eight */
    private static void eachOyster() {
        for (int oyster = 0; oyster < 8; oyster++) {
            OysterSecrets x = Edge.full();
            for (int i = 0; i < 8; i++) {
                x.change(i, BED, 0);
            }
            x.seed(seedFor(oyster, 4));
            x.storms(1);
            Due.due("29: oyster " + oyster + " alone comes to bed 4", x.bedOf(4, 2), 1 << oyster);
            Due.due("29: the others stay", x.bedOf(0, 2), 255 - (1 << oyster));
        }
        for (int oyster = 0; oyster < 8; oyster++) {
            OysterSecrets x = new OysterSecrets();
            for (int i = 0; i < 7; i++) {
                x.oyster(0, 0);
            }
            x.seed(seedFor(oyster, 4));
            x.storms(1);
            Due.due("29: of seven, oyster " + oyster, x.bedOf(4, 2), oyster == 7 ? 0 : 1 << oyster);
        }
    }

    /** Promise 29: with no OYSTER of that number both draws are made all the same, and the year goes by. */
    private static void noSuchOyster() {
        OysterSecrets x = new OysterSecrets();
        x.oyster(0, 2);
        int z = seedFor(1, 5);
        x.seed(z);
        Due.due("29: with no oyster 1", x.storms(1), 6);
        Due.due("29: oyster 0 stays", x.of(0, BED), 2);
        Due.due("29: both draws", x.count(6), next(next(z)));
        Due.due("29: the year", x.now(0), 1);
    }

    /** Promise 29: "the BED that is the second one's rest by 6": each rest, from 0 to 5 */
    private static void eachBed() {
        for (int bed = 0; bed < 6; bed++) {
            OysterSecrets x = Edge.full();
            x.change(3, BED, bed == 0 ? 1 : 0);
            x.seed(seedFor(3, bed));
            x.storms(1);
            Due.due("29: to bed " + bed, x.of(3, BED), bed);
        }
    }

    /** Promise 29: it takes from the bed that it has come to in this very year. */
    private static void beforeItsYear() {
        OysterSecrets x = new OysterSecrets();
        x.comes(0);
        x.bed(0, 0, 0);
        x.oyster(0, 0);
        x.seed(seedFor(0, 3));
        Due.due("29: layers of bed 3", x.storms(1), 6);
        Due.due("29: nacre of bed 3", x.bedOf(3, 0), 94);
    }

    /** Promise 29: "STATE: YEAR would be above 99999." */
    private static void noYearAbove() {
        Due.due("29: from 99979 on 20", Edge.inYear(99979).storms(20), 0);
        Edge.refused("29: from 99980 on 20", () -> Edge.inYear(99980), x -> x.storms(20), Due.STATE);
        Due.due("29: from 99998 on 1", Edge.inYear(99998).storms(1), 0);
        Edge.refused("29: from 99999 on 1", () -> Edge.inYear(99999), x -> x.storms(1), Due.STATE);
    }

    /** Promise 30: "n (0 to 20)", what 0 and 1 */
    private static void oddsEnds() {
        Edge.within("30: n", Edge::busy, (x, n) -> x.odds(n, 0), 0, 20);
        Edge.within("30: n below the line", Edge::busy, (x, n) -> x.odds(n, 1), 0, 20);
        Edge.within("30: what", Edge::busy, (x, what) -> x.odds(20, what), 0, 1);
        Edge.within("30: n, with no oysters", Edge::fresh, (x, n) -> x.odds(n, 0), 0, 20);
        Edge.changesNothing("30: odds, and z", Edge::busy, x -> x.odds(20, 0));
    }

    private static OysterSecrets bare(int oysters) {
        OysterSecrets x = new OysterSecrets();
        for (int i = 0; i < oysters; i++) {
            x.oyster(0, 0);
        }
        return x;
    }

    /** Promise 30: "in lowest terms", of none to eight oysters, behind none, one and twenty draws */
    private static void lowestTerms() {
        long[] above = {0, 1, 1, 3, 1, 5, 3, 7, 1};
        long[] below = {1, 8, 4, 8, 2, 8, 4, 8, 1};
        for (int oysters = 0; oysters <= 8; oysters++) {
            OysterSecrets x = bare(oysters);
            long aboveTwenty = 1;
            long belowTwenty = 1;
            for (int i = 0; i < 20; i++) {
                aboveTwenty *= above[oysters];
                belowTwenty *= below[oysters];
            }
            Due.due("30: no draws, " + oysters + " of 8", x.odds(0, 0), 1);
            Due.due("30: no draws, below " + oysters + " of 8", x.odds(0, 1), 1);
            Due.due("30: one draw, " + oysters + " of 8", x.odds(1, 0), above[oysters]);
            Due.due("30: one draw, below " + oysters + " of 8", x.odds(1, 1), below[oysters]);
            Due.due("30: twenty draws, " + oysters + " of 8", x.odds(20, 0), aboveTwenty);
            Due.due("30: twenty draws, below " + oysters + " of 8", x.odds(20, 1), belowTwenty);
        }
    }

    /** Promise 30: the greatest numbers are longs, and no wrap-around comes in. */
    private static void greatestNumbers() {
        Due.due("30: 7 twenty times", bare(7).odds(20, 0), 79792266297612001L);
        Due.due("30: 8 twenty times", bare(7).odds(20, 1), 1152921504606846976L);
        Due.due("30: 7 nineteen times", bare(7).odds(19, 0), 11398895185373143L);
    }

    /** Promise 30: "OYSTERS that there are and that aren't hidden now": told ones aren't, hidden ones are */
    private static void notHiddenNow() {
        OysterSecrets x = bare(3);
        x.change(0, LAYERS, 9);
        Due.due("30: 9 of 10 isn't hidden", x.odds(1, 0), 3);
        x.change(0, LAYERS, 10);
        Due.due("30: 10 of 10 is", x.odds(1, 0), 1);
        Due.due("30: 2 of 8 are 1 of 4", x.odds(1, 1), 4);
        x.change(0, 2, 0);
        Due.due("30: a told one isn't", x.odds(1, 0), 3);
        for (int i = 0; i < 3; i++) {
            x.change(i, 2, 1);
            x.change(i, LAYERS, 1);
        }
        Due.due("30: all hidden", x.odds(20, 0), 0);
        Due.due("30: 0 below the line is 1", x.odds(20, 1), 1);
        Due.due("30: all hidden, no draws", x.odds(0, 0), 1);
    }

    /** Promise 31: any int becomes z, and no call of it is refused. */
    private static void anySeed() {
        OysterSecrets x = new OysterSecrets();
        Due.due("31: 1 at first", x.seed(Integer.MIN_VALUE), 1);
        Due.due("31: the least int", x.seed(-1), Integer.MIN_VALUE);
        Due.due("31: -1", x.seed(Integer.MAX_VALUE), -1);
        Due.due("31: the greatest int", x.seed(0), Integer.MAX_VALUE);
        Due.due("31: 0", x.seed(0), 0);
        Due.due("31: none is a finding", x.status(-1), 0);
    }

    public static void main(String[] args) {
        oneToTwenty();
        eachOyster();
        noSuchOyster();
        eachBed();
        beforeItsYear();
        noYearAbove();
        oddsEnds();
        lowestTerms();
        greatestNumbers();
        notHiddenNow();
        anySeed();
        Due.end();
    }
}
