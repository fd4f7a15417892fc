/** Promises 26 to 28: told layers. */
public final class ToldTest {
    private static void weights() {
        OysterSecrets x = new OysterSecrets();
        x.oyster(1, 0);
        Due.sheet(x, 0, 0, 9);
        Due.due("26: weights of 30 to 39", x.fits(0, 0), 10);
        Due.due("27: the least of them", x.weighed(0, 0), 30);
        Due.sheet(x, 0, -1, -1, 30);
        Due.due("26: any now, 30 in two years", x.fits(0, 0), 10);
        Due.due("27: 90 is the least", x.weighed(0, 0), 90);
        Due.sheet(x, 0, -1, -1);
        Due.due("26: any", x.fits(0, 0), 99);
        Due.due("27: any", x.weighed(0, 0), 1);
        Due.sheet(x, 0);
        Due.due("26: no numbers", x.fits(0, 0), 99);
        Due.due("27: no numbers", x.weighed(0, 0), 1);
        Due.sheet(x, 0, 1);
        Due.due("26: 1 layer now", x.fits(0, 0), 0);
        Due.due("27: 1 layer now", x.weighed(0, 0), Due.NONE);
        Due.sheet(x, 0, -2);
        Due.due("26: -2 is no layers", x.fits(0, 0), 0);
        Due.due("26: nothing changes", x.of(0, 2) + x.of(0, 3) + x.now(0), 10);
    }

    // In warm water it shows: one of 7 or less is told in the first year, and takes nothing more.
    private static void toldOnes() {
        OysterSecrets x = new OysterSecrets();
        x.bed(0, 0, 0);
        x.bed(0, 1, 0);
        x.comes(4);
        x.oyster(0, 0);
        x.change(0, 2, 0);
        Due.sheet(x, 3, 0, 0, 0, 0);
        Due.due("26: told by then", x.fits(3, 0), 7);
        Due.due("27: told by then", x.weighed(3, 0), 1);
        Due.sheet(x, 3, 0, 0, 4, 8);
        Due.due("26: not told by then", x.fits(3, 0), 92 - 3);
        Due.due("27: not told by then", x.weighed(3, 0), 8);
    }

    // One after the other is told and leaves the 1 that comes to the next, so that it comes to oyster 3 in year 15:
    // by then each weight but 99 is told, in the warm water.
    private static void theHeaviest() {
        OysterSecrets x = new OysterSecrets();
        x.bed(0, 0, 0);
        x.bed(0, 1, 0);
        x.comes(1);
        int[] weights = {49, 91, 98, 1};
        for (int i = 0; i < 4; i++) {
            x.oyster(0, 0);
            x.change(i, 2, weights[i]);
        }
        int[] layers = new int[16];
        layers[15] = 1;
        Due.sheet(x, 0, layers);
        Due.due("26: 99 alone", x.fits(0, 3), 1);
        Due.due("27: 99 alone", x.weighed(0, 3), 99);
        layers[15] = 0;
        Due.sheet(x, 0, layers);
        Due.due("26: all but 99", x.fits(0, 3), 98);
        Due.due("27: all but 99", x.weighed(0, 3), 1);
    }

    private static void kinds() {
        OysterSecrets x = new OysterSecrets();
        x.oyster(4, 0);
        Due.sheet(x, 1, 0, 6);
        Due.due("28: 6 in a year", x.kinds(1, 0), 1 + 32);
        Due.sheet(x, 1, 0, 2);
        Due.due("28: 2 in a year", x.kinds(1, 0), 8 + 16);
        Due.sheet(x, 1, 0, 2, 2);
        Due.due("28: none in the second", x.kinds(1, 0), 16);
        Due.sheet(x, 1, 0, -1, 14);
        Due.due("28: 14 in two", x.kinds(1, 0), 2);
        Due.sheet(x, 1, 0, 14);
        Due.due("28: 14 in one", x.kinds(1, 0), 64);
        Due.sheet(x, 1, 0, 3);
        Due.due("28: 3 in one", x.kinds(1, 0), 4);
        Due.sheet(x, 1, 0, 5);
        Due.due("28: 5 in one", x.kinds(1, 0), 0);
        Due.sheet(x, 1);
        Due.due("28: no numbers", x.kinds(1, 0), 127);
        x.sheet(1, 8, 2);
        x.write(1, 0, 255);
        x.write(1, 1, 6);
        Due.due("28: 255 of 8 bits is any", x.kinds(1, 0), 1 + 32);
        Due.due("28: nothing changes", x.of(0, 0), 4);
    }

    private static void wrong() {
        OysterSecrets x = new OysterSecrets();
        for (int s : new int[] {-1, 4, Integer.MIN_VALUE, Integer.MAX_VALUE}) {
            Due.due("26: fits of no sheet", x.fits(s, 0), Due.BEYOND);
            Due.due("27: weighed of no sheet", x.weighed(s, 0), Due.BEYOND);
            Due.due("28: kinds of no sheet", x.kinds(s, 0), Due.BEYOND);
        }
        Due.due("26: missing before no oyster", x.fits(3, 0), Due.MISSING);
        Due.due("27: missing before no oyster", x.weighed(3, 0), Due.MISSING);
        Due.due("28: missing before no oyster", x.kinds(3, 0), Due.MISSING);
        x.sheet(3, 8, 0);
        for (int oyster : new int[] {-1, 0, 1, 8, Integer.MIN_VALUE, Integer.MAX_VALUE}) {
            Due.due("26: no such oyster", x.fits(3, oyster), Due.BEYOND);
            Due.due("27: no such oyster", x.weighed(3, oyster), Due.BEYOND);
            Due.due("28: no such oyster", x.kinds(3, oyster), Due.BEYOND);
        }
    }

    public static void main(String[] args) {
        weights();
        toldOnes();
        theHeaviest();
        kinds();
        wrong();
        Due.end();
    }
}
