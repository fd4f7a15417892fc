/** Promises 1 to 8: a new object, beds, oysters. */
public final class BedsTest {
    private static void newObject() {
        OysterSecrets x = new OysterSecrets();
        for (int b = 0; b < 6; b++) {
            Due.due("1: bedOf(b, 0)", x.bedOf(b, 0), 100);
            Due.due("1: bedOf(b, 1)", x.bedOf(b, 1), 3);
            Due.due("1: bedOf(b, 2)", x.bedOf(b, 2), 0);
        }
        int[] counts = {0, 0, 0, 0, 0, 0, 1, 0};
        for (int what = 0; what < 8; what++) {
            Due.due("1: count(" + what + ")", x.count(what), counts[what]);
        }
        Due.due("1: status(-1)", x.status(-1), 0);
        Due.due("1: comes(20)", x.comes(20), 20);
        Due.due("1: seed(1)", x.seed(1), 1);
        Due.due("1: wipe()", x.wipe(), 0);
        Due.due("1: tear()", x.tear(), 0);
        Due.due("1: undo()", x.undo(), Due.NONE);
        for (int s = 0; s < 4; s++) {
            Due.due("1: load(s)", x.load(s), Due.MISSING);
        }
        for (int spot = 0; spot < 10; spot++) {
            Due.due("1: as(spot, 0)", x.as(spot, 0), Due.MISSING);
        }
    }

    private static void bed() {
        OysterSecrets x = new OysterSecrets();
        Due.due("2: bed(0, 0, 50)", x.bed(0, 0, 50), 100);
        Due.due("2: bed(0, 0, 999)", x.bed(0, 0, 999), 50);
        Due.due("2: bed(0, 0, 0)", x.bed(0, 0, 0), 999);
        Due.due("2: bed(5, 1, 9)", x.bed(5, 1, 9), 3);
        Due.due("2: bed(5, 1, 0)", x.bed(5, 1, 0), 9);
        int[][] wrong = {{-1, 0, 5}, {6, 0, 5}, {0, -1, 5}, {0, 2, 5}, {0, 0, -1}, {0, 0, 1000},
            {0, 1, -1}, {0, 1, 10}, {Integer.MIN_VALUE, 0, 5}, {Integer.MAX_VALUE, 0, 5}};
        for (int[] w : wrong) {
            Due.due("2: bed of wrong", x.bed(w[0], w[1], w[2]), Due.BEYOND);
        }
        Due.due("2: bedOf(0, 0)", x.bedOf(0, 0), 0);
        Due.due("2: bedOf(0, 1)", x.bedOf(0, 1), 3);
        Due.due("2: bedOf(5, 0)", x.bedOf(5, 0), 100);
        Due.due("2: bedOf(5, 1)", x.bedOf(5, 1), 0);
    }

    private static void bedOf() {
        OysterSecrets x = new OysterSecrets();
        x.oyster(0, 2);
        x.oyster(3, 5);
        x.oyster(6, 2);
        x.change(0, 2, 0);
        Due.due("3: bedOf(2, 2)", x.bedOf(2, 2), 5);
        Due.due("3: bedOf(5, 2)", x.bedOf(5, 2), 2);
        Due.due("3: bedOf(0, 2)", x.bedOf(0, 2), 0);
        Due.due("3: bedOf(-1, 0)", x.bedOf(-1, 0), Due.BEYOND);
        Due.due("3: bedOf(6, 0)", x.bedOf(6, 0), Due.BEYOND);
        Due.due("3: bedOf(0, -1)", x.bedOf(0, -1), Due.BEYOND);
        Due.due("3: bedOf(0, 3)", x.bedOf(0, 3), Due.BEYOND);
    }

    private static void comes() {
        OysterSecrets x = new OysterSecrets();
        Due.due("4: comes(0)", x.comes(0), 20);
        Due.due("4: comes(99)", x.comes(99), 0);
        Due.due("4: comes(100)", x.comes(100), Due.BEYOND);
        Due.due("4: comes(-1)", x.comes(-1), Due.BEYOND);
        Due.due("4: comes(7)", x.comes(7), 99);
        x.go(1);
        Due.due("4: bedOf(3, 0)", x.bedOf(3, 0), 107);
    }

    private static void oyster() {
        OysterSecrets x = new OysterSecrets();
        Due.due("5: oyster(-1, 0)", x.oyster(-1, 0), Due.BEYOND);
        Due.due("5: oyster(7, 0)", x.oyster(7, 0), Due.BEYOND);
        Due.due("5: oyster(0, -1)", x.oyster(0, -1), Due.BEYOND);
        Due.due("5: oyster(0, 6)", x.oyster(0, 6), Due.BEYOND);
        for (int i = 0; i < 8; i++) {
            Due.due("5: oyster", x.oyster(i % 7, i % 6), i);
        }
        Due.due("5: a 9th", x.oyster(0, 0), Due.FULL);
        Due.due("5: a 9th of no kind", x.oyster(7, 0), Due.BEYOND);
        Due.due("5: a 9th in no bed", x.oyster(0, 6), Due.BEYOND);
        Due.due("5: count(1)", x.count(1), 8);
        int[] first = {3, 3, 10, 0, 0, 0};
        for (int what = 0; what < 6; what++) {
            Due.due("5: of(3, " + what + ")", x.of(3, what), first[what]);
        }
    }

    private static OysterSecrets sevenKinds(int weight, int layers, int age, int shown) {
        OysterSecrets x = new OysterSecrets();
        for (int k = 0; k < 7; k++) {
            x.oyster(k, 1);
            x.change(k, 2, weight);
            x.change(k, 3, layers);
            x.change(k, 4, age);
            x.change(k, 5, shown);
        }
        return x;
    }

    private static void each(String why, OysterSecrets x, int what, int... wants) {
        for (int k = 0; k < 7; k++) {
            Due.due("6: " + why + " of(" + k + ", " + what + ")", x.of(k, what), wants[k]);
        }
    }

    private static void of() {
        OysterSecrets x = sevenKinds(37, 45, 21, 3);
        x.bed(1, 1, 2);
        each("kind", x, 0, 0, 1, 2, 3, 4, 5, 6);
        each("bed", x, 1, 1, 1, 1, 1, 1, 1, 1);
        each("weight", x, 2, 37, 37, 37, 37, 37, 37, 37);
        each("layers", x, 3, 45, 45, 45, 45, 45, 45, 45);
        each("age", x, 4, 21, 21, 21, 21, 21, 21, 21);
        each("shown", x, 5, 3, 3, 3, 3, 3, 3, 3);
        each("takes", x, 6, 6, 9, 3, 2, 0, 8, 18);
        each("needs", x, 7, 37, 74, 18, 16, 16, 32, 84);
        each("opens", x, 8, 1, 1, 1, 1, 0, 1, 0);
        each("worth", x, 9, 45, 82, 22, 22, 22, 135, 52);
        x.bed(1, 1, 3);
        each("opens in the cold", x, 8, 0, 0, 0, 1, 0, 0, 0);
        x.bed(1, 1, 9);
        each("needs in the cold", x, 7, 37, 74, 18, 9, 9, 32, 84);
        Due.due("6: of(-1, 0)", x.of(-1, 0), Due.BEYOND);
        Due.due("6: of(7, 0)", x.of(7, 0), Due.BEYOND);
        Due.due("6: of(0, -1)", x.of(0, -1), Due.BEYOND);
        Due.due("6: of(0, 10)", x.of(0, 10), Due.BEYOND);
    }

    private static void ofEdges() {
        OysterSecrets told = sevenKinds(0, 45, 99, 3);
        each("told: takes", told, 6, 6, 6, 3, 2, 0, 15, 12);
        each("told: needs", told, 7, 0, 0, 0, 0, 0, 0, 10);
        each("told: worth", told, 9, 0, 0, 0, 0, 0, 0, 0);
        OysterSecrets light = sevenKinds(5, 5, 999, 2);
        light.bed(1, 1, 9);
        each("light: takes", light, 6, 6, 6, 3, 2, 0, 15, 12);
        each("light: needs", light, 7, 5, 10, 2, 0, 0, 0, 20);
        each("light: worth", light, 9, 5, 10, 2, 2, 2, 15, 0);
        OysterSecrets heavy = sevenKinds(99, 999, 10, 0);
        heavy.bed(1, 1, 0);
        each("heavy: takes", heavy, 6, 6, 15, 3, 2, 2, 7, 30);
        each("heavy: needs", heavy, 7, 99, 198, 49, 49, 49, 94, 208);
        each("heavy: opens", heavy, 8, 1, 0, 1, 1, 0, 1, 0);
        each("heavy: worth", heavy, 9, 999, 1098, 499, 499, 499, 2997, 1098);
        heavy.change(1, 2, 51);
        Due.due("6: a black one of 51 opens", heavy.of(1, 8), 0);
        heavy.change(1, 2, 50);
        Due.due("6: a black one of 50 opens", heavy.of(1, 8), 1);
        heavy.go(1);
        Due.due("6: a moon one opens in year 1", heavy.of(4, 8), 0);
        heavy.go(1);
        Due.due("6: a moon one opens in year 2", heavy.of(4, 8), 1);
        heavy.go(1);
        Due.due("6: a moon one opens in year 3", heavy.of(4, 8), 0);
        heavy.go(2);
        Due.due("6: a moon one opens in year 5", heavy.of(4, 8), 1);
        OysterSecrets young = sevenKinds(10, 0, 9, 0);
        each("young: takes", young, 6, 6, 7, 3, 2, 0, 6, 14);
    }

    private static void change() {
        OysterSecrets x = new OysterSecrets();
        x.oyster(0, 0);
        int[] most = {6, 5, 99, 999, 999, 999};
        int[] first = {0, 0, 10, 0, 0, 0};
        for (int what = 0; what < 6; what++) {
            Due.due("7: change(0, " + what + ", most)", x.change(0, what, most[what]), first[what]);
            Due.due("7: change(0, " + what + ", most + 1)", x.change(0, what, most[what] + 1), Due.BEYOND);
            Due.due("7: change(0, " + what + ", -1)", x.change(0, what, -1), Due.BEYOND);
            Due.due("7: of(0, " + what + ")", x.of(0, what), most[what]);
            Due.due("7: change(0, " + what + ", 0)", x.change(0, what, 0), most[what]);
        }
        Due.due("7: change(0, 6, 0)", x.change(0, 6, 0), Due.BEYOND);
        Due.due("7: change(0, -1, 0)", x.change(0, -1, 0), Due.BEYOND);
        Due.due("7: change(1, 0, 0)", x.change(1, 0, 0), Due.BEYOND);
        Due.due("7: change(-1, 0, 0)", x.change(-1, 0, 0), Due.BEYOND);
    }

    private static void open() {
        OysterSecrets x = new OysterSecrets();
        x.oyster(5, 4);
        x.change(0, 3, 30);
        x.change(0, 4, 7);
        x.change(0, 5, 2);
        Due.due("8: open(0)", x.open(0), 90);
        int[] left = {5, 4, 0, 0, 0, 0};
        for (int what = 0; what < 6; what++) {
            Due.due("8: of(0, " + what + ")", x.of(0, what), left[what]);
        }
        Due.due("8: open(0) again", x.open(0), 0);
        x.change(0, 3, 30);
        Due.due("8: open(0) of a told one", x.open(0), 0);
        Due.due("8: open(1)", x.open(1), Due.BEYOND);
        Due.due("8: open(-1)", x.open(-1), Due.BEYOND);
        Due.due("8: count(1)", x.count(1), 1);
    }

    public static void main(String[] args) {
        newObject();
        bed();
        bedOf();
        comes();
        oyster();
        of();
        ofEdges();
        change();
        open();
        Due.end();
    }
}
