/** Promises 9 and 10: years. */
public final class YearsTest {
    private static void taking() {
        OysterSecrets x = new OysterSecrets();
        x.bed(0, 0, 10);
        x.comes(0);
        x.oyster(0, 0);
        x.oyster(0, 0);
        x.oyster(0, 0);
        x.oyster(0, 1);
        Due.due("9: go(1)", x.go(1), 16);
        Due.due("9: the first takes first", x.of(0, 3), 6);
        Due.due("9: the second takes what is left", x.of(1, 3), 4);
        Due.due("9: the third finds nothing", x.of(2, 3), 0);
        Due.due("9: another bed", x.of(3, 3), 6);
        Due.due("9: its nacre", x.bedOf(0, 0), 0);
        Due.due("9: the other's nacre", x.bedOf(1, 0), 94);
        Due.due("9: no one's nacre", x.bedOf(2, 0), 100);
        Due.due("9: age", x.of(2, 4), 1);
        Due.due("9: year", x.now(0), 1);
    }

    private static void showing() {
        OysterSecrets x = new OysterSecrets();
        x.bed(0, 1, 2);
        x.oyster(0, 0);
        x.oyster(0, 1);
        x.go(1);
        Due.due("9: it shows in warm water", x.of(0, 5), 1);
        Due.due("9: and is lighter", x.of(0, 2), 3);
        Due.due("9: not in cold water", x.of(1, 5), 0);
        Due.due("9: nor lighter there", x.of(1, 2), 10);
        x.go(1);
        Due.due("9: hidden by 12 layers", x.of(0, 5), 1);
        Due.due("9: its weight stays", x.of(0, 2), 3);
        OysterSecrets told = new OysterSecrets();
        told.bed(0, 1, 0);
        told.bed(0, 0, 0);
        told.comes(3);
        told.oyster(0, 0);
        Due.due("9: a year with nothing", told.go(1), 0);
        Due.due("9: weight", told.of(0, 2), 3);
        told.change(0, 2, 7);
        Due.due("9: another, layers are 3", told.go(1), 3);
        Due.due("9: told", told.of(0, 2), 0);
        Due.due("9: shown", told.of(0, 5), 2);
        Due.due("9: a told one takes nothing", told.go(5), 3);
        Due.due("9: nor shows", told.of(0, 5), 2);
        Due.due("9: but gets older", told.of(0, 4), 7);
        Due.due("9: nacre is left", told.bedOf(0, 0), 18);
    }

    // Layers as many as needed hide it; the layers of this year count.
    private static void hiding() {
        OysterSecrets x = new OysterSecrets();
        x.bed(0, 1, 0);
        x.oyster(0, 0);
        x.oyster(0, 0);
        x.change(0, 3, 4);
        x.change(1, 3, 3);
        x.go(1);
        Due.due("9: 10 layers hide 10", x.of(0, 5), 0);
        Due.due("9: 9 don't", x.of(1, 5), 1);
        x.bed(0, 1, 9);
        x.oyster(3, 0);
        x.change(2, 2, 50);
        x.go(2);
        Due.due("9: a poor one shows in the cold, too", x.of(2, 5), 2);
        Due.due("9: twice 7 less", x.of(2, 2), 36);
    }

    private static void moon() {
        OysterSecrets x = new OysterSecrets();
        x.oyster(4, 0);
        x.change(0, 2, 99);
        int[] layers = {2, 2, 4, 4, 6, 6};
        int[] shown = {0, 0, 1, 1, 1, 2};
        for (int i = 0; i < 6; i++) {
            Due.due("9: a moon one's layers", x.go(1), layers[i]);
            Due.due("9: a moon one's shown", x.of(0, 5), shown[i]);
        }
    }

    private static void dear() {
        OysterSecrets x = new OysterSecrets();
        x.oyster(5, 0);
        Due.due("9: a dear one takes 6 in ten years", x.go(10), 60);
        Due.due("9: and 7 in the next", x.go(10), 130);
    }

    private static void caps() {
        OysterSecrets x = new OysterSecrets();
        x.oyster(0, 0);
        x.oyster(3, 1);
        x.change(0, 3, 998);
        x.change(0, 4, 999);
        x.change(1, 2, 99);
        x.change(1, 5, 999);
        x.bed(2, 0, 985);
        Due.due("9: layers stay at 999", x.go(1), 999 + 2);
        Due.due("9: all that it takes is gone", x.bedOf(0, 0), 114);
        Due.due("9: age stays at 999", x.of(0, 4), 999);
        Due.due("9: shown stays at 999", x.of(1, 5), 999);
        Due.due("9: weight goes on", x.of(1, 2), 92);
        Due.due("9: nacre stays at 999", x.bedOf(2, 0), 999);
        x.go(1);
        Due.due("9: at 999 it takes all the same", x.bedOf(0, 0), 128);
    }

    private static void wrongYears() {
        OysterSecrets x = new OysterSecrets();
        x.oyster(0, 0);
        Due.due("9: go(0)", x.go(0), Due.BEYOND);
        Due.due("9: go(-1)", x.go(-1), Due.BEYOND);
        Due.due("9: go(61)", x.go(61), Due.BEYOND);
        Due.due("9: go(MAX)", x.go(Integer.MAX_VALUE), Due.BEYOND);
        Due.due("9: year", x.now(0), 0);
        Due.due("9: go(60)", x.go(60), 360);
        Due.due("9: year", x.now(0), 60);
    }

    // More calls than are promised; but the year's end can't be come to with fewer.
    private static void lastYear() {
        OysterSecrets x = new OysterSecrets();
        for (int i = 0; i < 1666; i++) {
            x.go(60);
        }
        Due.due("9: go(40)", x.go(40), Due.STATE);
        x.image();
        Due.due("9: go(39)", x.go(39), 0);
        Due.due("9: the last year", x.undo(), 99960);
        Due.due("9: go(61)", x.go(61), Due.BEYOND);
        Due.due("9: go(38)", x.go(38), 0);
        Due.due("29: storms(2)", x.storms(2), Due.STATE);
        Due.due("29: storms(21)", x.storms(21), Due.BEYOND);
        Due.due("29: storms(1)", x.storms(1), 0);
        Due.due("9: go(1)", x.go(1), Due.STATE);
        Due.due("29: storms(1)", x.storms(1), Due.STATE);
        Due.due("9: year", x.now(0), 99999);
        Due.due("46: status(4)", x.status(4), 4);
    }

    private static void now() {
        OysterSecrets x = new OysterSecrets();
        x.oyster(0, 0);
        x.oyster(6, 1);
        x.oyster(2, 2);
        x.oyster(1, 2);
        x.change(0, 2, 0);
        x.change(0, 3, 50);
        x.change(1, 3, 29);
        x.change(2, 3, 5);
        x.change(3, 3, 20);
        x.change(1, 5, 1);
        x.change(2, 5, 4);
        int[] wants = {0, 104, 1, 12, 600, 29 + 2 + 30, 5};
        for (int what = 0; what < 7; what++) {
            Due.due("10: now(" + what + ")", x.now(what), wants[what]);
        }
        x.change(1, 3, 30);
        Due.due("10: 30 layers hide a minister's 10", x.now(3), 14);
        Due.due("10: now(-1)", x.now(-1), Due.BEYOND);
        Due.due("10: now(7)", x.now(7), Due.BEYOND);
        x.go(3);
        Due.due("10: now(0)", x.now(0), 3);
        Due.due("10: now(4)", x.now(4), 600 + 6 * 60 - 3 * (14 + 3 + 7));
    }

    public static void main(String[] args) {
        taking();
        showing();
        hiding();
        moon();
        dear();
        caps();
        wrongYears();
        lastYear();
        now();
        Due.end();
    }
}
