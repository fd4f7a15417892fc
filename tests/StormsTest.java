/** Promises 29 to 31: storms. */
public final class StormsTest {
    // From z = 1 the draws are of oyster 6 to bed 2, 4 to 5, 7 to 0, 6 to 2, 4 to 3, 2 to 0, 2 to 2.
    private static void storms() {
        OysterSecrets x = new OysterSecrets();
        for (int i = 0; i < 5; i++) {
            x.oyster(0, 1);
        }
        Due.due("29: no oyster 6", x.storms(1), 30);
        Due.due("29: all are where they were", x.bedOf(1, 2), 31);
        Due.due("29: z", x.count(6), -1770082073);
        Due.due("29: year", x.now(0), 1);
        Due.due("29: oyster 4 to bed 5", x.storms(1), 60);
        Due.due("29: the bed", x.of(4, 1), 5);
        Due.due("29: its nacre is taken there", x.bedOf(5, 0), 140 - 6);
        Due.due("29: five more", x.storms(5), 210);
        Due.due("29: oyster 4 to bed 3", x.of(4, 1), 3);
        Due.due("29: oyster 2 to bed 2", x.of(2, 1), 2);
        Due.due("29: by bed 0", x.bedOf(0, 0), 100 + 7 * 20 - 6);
        Due.due("29: the others stay", x.bedOf(1, 2), 1 + 2 + 8);
        Due.due("29: year", x.count(0), 7);
        Due.due("29: z", x.seed(1), -1357057797);
    }

    // Each storm has its year: the nacre of the bed between two of them is taken.
    private static void yearByYear() {
        OysterSecrets x = new OysterSecrets();
        for (int i = 0; i < 8; i++) {
            x.oyster(0, 1);
        }
        Due.due("29: storms(4)", x.storms(4), 8 * 24);
        Due.due("29: bed 0 had oyster 7 for two years", x.bedOf(0, 0), 180 - 12);
        Due.due("29: bed 2 had oyster 6 for four", x.bedOf(2, 0), 180 - 24);
        Due.due("29: bed 5 had oyster 4 for three", x.bedOf(5, 0), 180 - 18);
        Due.due("29: storms(0)", x.storms(0), Due.BEYOND);
        Due.due("29: storms(-1)", x.storms(-1), Due.BEYOND);
        Due.due("29: storms(21)", x.storms(21), Due.BEYOND);
        Due.due("29: nothing changes", x.now(0), 4);
        Due.due("29: nor z", x.count(6), -1661227463);
        x.storms(20);
        Due.due("29: storms(20)", x.now(0), 24);
    }

    private static void odds() {
        OysterSecrets x = new OysterSecrets();
        Due.due("30: no oysters, above", x.odds(3, 0), 0);
        Due.due("30: no oysters, below", x.odds(3, 1), 1);
        Due.due("30: no draws, above", x.odds(0, 0), 1);
        Due.due("30: no draws, below", x.odds(0, 1), 1);
        x.oyster(0, 0);
        x.oyster(0, 0);
        x.oyster(0, 0);
        x.oyster(0, 0);
        x.change(0, 3, 10);
        Due.due("30: 3 of 8, above", x.odds(2, 0), 9);
        Due.due("30: 3 of 8, below", x.odds(2, 1), 64);
        x.change(1, 3, 10);
        Due.due("30: 2 of 8, above", x.odds(20, 0), 1);
        Due.due("30: 2 of 8, below", x.odds(20, 1), 1099511627776L);
        x.change(1, 2, 0);
        Due.due("30: a told one isn't hidden", x.odds(1, 0), 3);
        x.oyster(0, 0);
        x.oyster(0, 0);
        x.oyster(0, 0);
        Due.due("30: 6 of 8, above", x.odds(3, 0), 27);
        Due.due("30: 6 of 8, below", x.odds(3, 1), 64);
        x.oyster(0, 0);
        Due.due("30: 7 of 8, above", x.odds(20, 0), 79792266297612001L);
        Due.due("30: 7 of 8, below", x.odds(20, 1), 1152921504606846976L);
        x.change(0, 3, 0);
        Due.due("30: 8 of 8, above", x.odds(20, 0), 1);
        Due.due("30: 8 of 8, below", x.odds(20, 1), 1);
        Due.due("30: odds(21, 0)", x.odds(21, 0), Due.BEYOND);
        Due.due("30: odds(-1, 0)", x.odds(-1, 0), Due.BEYOND);
        Due.due("30: odds(1, 2)", x.odds(1, 2), Due.BEYOND);
        Due.due("30: odds(1, -1)", x.odds(1, -1), Due.BEYOND);
        Due.due("30: z stays", x.count(6), 1);
    }

    private static void seed() {
        OysterSecrets x = new OysterSecrets();
        Due.due("31: seed(MIN)", x.seed(Integer.MIN_VALUE), 1);
        Due.due("31: seed(-1000001)", x.seed(-1000001), Integer.MIN_VALUE);
        Due.due("31: count(6)", x.count(6), -1000001);
        Due.due("31: seed(MAX)", x.seed(Integer.MAX_VALUE), -1000001);
        Due.due("31: seed(0)", x.seed(0), Integer.MAX_VALUE);
        Due.due("31: no findings", x.status(-1), 0);
        x.storms(1);
        Due.due("31: from 0", x.count(6), 12345 * 1103515245 + 12345);
    }

    public static void main(String[] args) {
        storms();
        yearByYear();
        odds();
        seed();
        Due.end();
    }
}
