/** Promises 22 to 25: strings. */
public final class StringsTest {
    private static OysterSecrets withLayers(int... layers) {
        OysterSecrets x = new OysterSecrets();
        for (int i = 0; i < layers.length; i++) {
            x.oyster(i % 7, i % 6);
            x.change(i, 3, layers[i]);
        }
        return x;
    }

    private static void alike() {
        OysterSecrets x = withLayers(10, 14, 30, 12, 33, 100);
        x.change(3, 2, 0);
        Due.due("22: alike(0, 4)", x.alike(0, 4), 1 + 2 + 8);
        Due.due("22: alike(0, 3)", x.alike(0, 3), 1 + 8);
        Due.due("22: alike(4, 3)", x.alike(4, 3), 4 + 16);
        Due.due("22: alike(5, 0)", x.alike(5, 0), 32);
        Due.due("22: alike(5, 999)", x.alike(5, 999), 63);
        Due.due("22: alike(0, 1000)", x.alike(0, 1000), Due.BEYOND);
        Due.due("22: alike(0, -1)", x.alike(0, -1), Due.BEYOND);
        Due.due("22: alike(6, 0)", x.alike(6, 0), Due.BEYOND);
        Due.due("22: alike(-1, 0)", x.alike(-1, 0), Due.BEYOND);
    }

    private static void string() {
        OysterSecrets x = withLayers(10, 14, 30, 12, 33, 100);
        int[][] wants = {{0, 1}, {1, 1}, {2, 3}, {3, 3}, {15, 3}, {16, 5}, {66, 5}, {67, 6}, {999, 6}};
        for (int[] want : wants) {
            Due.due("23: string(" + want[0] + ")", x.string(want[0]), want[1]);
        }
        Due.due("23: string(1000)", x.string(1000), Due.BEYOND);
        Due.due("23: string(-1)", x.string(-1), Due.BEYOND);
        Due.due("23: of none", withLayers().string(999), 0);
        Due.due("23: of one", withLayers(5).string(0), 1);
        Due.due("23: of like ones", withLayers(5, 9, 5, 9, 5).string(0), 3);
        Due.due("23: the longer at the end", withLayers(0, 1, 50, 51, 52, 53).string(1), 4);
    }

    private static void pairs() {
        OysterSecrets x = withLayers(10, 14, 30, 12, 33, 100);
        int[][] wants = {{0, 0}, {1, 0}, {2, 1}, {3, 2}, {16, 2}, {66, 2}, {67, 3}, {999, 3}};
        for (int[] want : wants) {
            Due.due("24: pairs(" + want[0] + ")", x.pairs(want[0]), want[1]);
        }
        Due.due("24: pairs(1000)", x.pairs(1000), Due.BEYOND);
        Due.due("24: pairs(-1)", x.pairs(-1), Due.BEYOND);
        Due.due("24: of none", withLayers().pairs(0), 0);
        Due.due("24: of one", withLayers(7).pairs(999), 0);
        Due.due("24: of a chain of four", withLayers(3, 1, 2, 4).pairs(1), 2);
        Due.due("24: of a chain of five", withLayers(3, 1, 2, 4, 5).pairs(1), 2);
        Due.due("24: of eight", withLayers(0, 0, 0, 0, 0, 0, 0, 0).pairs(0), 4);
    }

    private static void match() {
        Due.due("25: match()", withLayers(10, 14, 30, 12, 33, 100).match(), 67);
        Due.due("25: of none", withLayers().match(), 0);
        Due.due("25: of one", withLayers(500).match(), 0);
        Due.due("25: of two", withLayers(999, 0).match(), 999);
        Due.due("25: of like ones", withLayers(8, 8, 8).match(), 0);
        Due.due("25: of three", withLayers(9, 0, 4).match(), 5);
    }

    public static void main(String[] args) {
        alike();
        string();
        pairs();
        match();
        Due.end();
    }
}
