/** Promises 42 to 46: images, counts and findings. */
public final class ImagesTest {
    private static void images() {
        OysterSecrets x = new OysterSecrets();
        Due.due("43: undo() of nothing", x.undo(), Due.NONE);
        Due.due("44: tear() of nothing", x.tear(), 0);
        x.oyster(5, 2);
        x.hold(3, 0);
        x.go(4);
        x.feed(65, 1);
        x.sheet(1, 8, 5);
        Due.due("42: image()", x.image(), 1);
        x.go(7);
        x.oyster(0, 0);
        x.change(0, 0, 6);
        x.change(0, 1, 4);
        x.change(0, 2, 50);
        x.change(0, 5, 9);
        x.comes(1);
        x.bed(5, 1, 0);
        x.seed(77);
        x.hold(3, 1);
        x.hold(4, 1);
        x.feed(66, 1);
        x.sheet(1, 8, 6);
        Due.due("43: undo()", x.undo(), 4);
        int[] wants = {5, 2, 10, 24, 4, 0};
        for (int what = 0; what < 6; what++) {
            Due.due("43: of(0, " + what + ")", x.of(0, what), wants[what]);
        }
        Due.due("43: oysters", x.count(1), 1);
        Due.due("43: z", x.count(6), 1);
        Due.due("43: spots", x.count(7), 1);
        Due.due("43: as(3, 5)", x.as(3, 5), 0);
        Due.due("43: nacre", x.now(4), 600 + 480 - 24);
        Due.due("43: cold", x.bedOf(5, 1), 3);
        Due.due("43: comes", x.comes(20), 20);
        Due.due("43: the tape stays", x.count(5), 2);
        Due.due("43: sheets stay", x.judge(1), 1);
        Due.due("43: numbers of a sheet", x.write(1, 5, 0), 1);
        x.go(1);
        Due.due("43: it stays", x.undo(), 4);
        x.go(2);
        Due.due("42: another", x.image(), 1);
        x.go(1);
        Due.due("43: the latest", x.undo(), 6);
        Due.due("43: and no other behind it", x.undo(), 6);
        x.go(1);
        Due.due("44: tear()", x.tear(), 1);
        Due.due("44: tear() again", x.tear(), 0);
        Due.due("43: undo() of nothing", x.undo(), Due.NONE);
        Due.due("44: the present stays", x.now(0), 7);
    }

    private static void count() {
        OysterSecrets x = new OysterSecrets();
        x.oyster(0, 0);
        x.oyster(0, 0);
        x.oyster(3, 1);
        x.go(3);
        x.change(1, 2, 0);
        x.change(2, 2, 0);
        x.change(0, 5, 4);
        x.change(2, 5, 3);
        x.feed(1, 3);
        x.hold(9, 2);
        x.hold(0, 2);
        x.seed(-2000000);
        int[] wants = {3, 3, 2, 18 + 18 + 6, 7, 3, -2000000, 2};
        for (int what = 0; what < 8; what++) {
            Due.due("45: count(" + what + ")", x.count(what), wants[what]);
        }
        Due.due("45: count(-1)", x.count(-1), Due.BEYOND);
        Due.due("45: count(8)", x.count(8), Due.BEYOND);
        Due.due("46: both", x.status(0), 2);
        Due.due("46: z is no finding", x.status(-1), 2);
    }

    private static void status() {
        OysterSecrets x = new OysterSecrets();
        x.go(0);
        x.go(0);
        x.undo();
        x.load(0);
        x.sheet(0, 8, -1);
        x.image();
        x.oyster(0, 0);
        x.hold(0, 0);
        x.as(0, 1);
        for (int i = 0; i < 8; i++) {
            x.oyster(0, 0);
        }
        x.text();
        x.odds(99, 0);
        int[] wants = {3, 1, 1, 1, 0, 1, 1};
        for (int which = 0; which < 7; which++) {
            Due.due("46: status(" + which + ")", x.status(which), wants[which]);
        }
        Due.due("46: status(-1)", x.status(-1), 8);
        Due.due("46: status(-2)", x.status(-2), Due.BEYOND);
        Due.due("46: status(7)", x.status(7), Due.BEYOND);
        Due.due("46: counted from then on", x.status(0), 5);
        Due.due("46: in all, too", x.status(-1), 10);
        Due.due("46: undo()", x.undo(), 0);
        Due.due("46: undo() takes none back", x.status(-1), 10);
    }

    public static void main(String[] args) {
        images();
        count();
        status();
        Due.end();
    }
}
