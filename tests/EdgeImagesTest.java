/** The edges of promises 42 to 46: images, counts, findings. */
public final class EdgeImagesTest {
    /** Promise 42: "All but THE TAPE and SHEETS is kept: 1.": each thing by itself, on a twin that never changed it */
    private static void allIsKept() {
        Edge.Call[] changes = {
            (x, v) -> x.bed(1, 0, 3), (x, v) -> x.bed(5, 1, 7), (x, v) -> x.comes(8), (x, v) -> x.oyster(2, 3),
            (x, v) -> x.change(0, 0, 6), (x, v) -> x.change(6, 1, 0), (x, v) -> x.change(6, 2, 77),
            (x, v) -> x.change(6, 3, 77), (x, v) -> x.change(6, 4, 77), (x, v) -> x.change(6, 5, 77),
            (x, v) -> x.open(0), (x, v) -> x.go(60), (x, v) -> x.storms(20), (x, v) -> x.seed(-5),
            (x, v) -> x.hold(0, -1), (x, v) -> x.hold(9, 5), (x, v) -> x.load(2)};
        for (int i = 0; i < changes.length; i++) {
            OysterSecrets x = Edge.busy();
            OysterSecrets twin = Edge.busy();
            Due.due("42: image()", x.image(), 1);
            Due.due("42: image() of the twin", twin.image(), 1);
            changes[i].on(x, 0);
            Due.due("43: undo() of change " + i, x.undo(), 5);
            Trace.same("43: undo() of change " + i, x, twin);
        }
    }

    /** Promise 42: "All but THE TAPE and SHEETS": these stay as they are now */
    private static void tapeAndSheetsStay() {
        OysterSecrets x = Edge.busy();
        OysterSecrets twin = Edge.busy();
        for (OysterSecrets one : new OysterSecrets[] {x, twin}) {
            if (one == x) {
                one.image();
            }
            one.wipe();
            Due.feed(one, "bed 2 nacre 1;oyster");
            one.sheet(0, 32, 4);
            one.sheet(1, 0, 0);
            one.sheet(3, 8, 2);
            one.write(3, 1, 9);
            if (one != x) {
                one.image();
            }
        }
        Due.due("43: YEAR", x.undo(), 5);
        Trace.same("43: the tape and the sheets are those of now", x, twin);
    }

    /** Promise 42: a new object's image; and one of a full estuary, taken back to a new one's */
    private static void emptyAndFull() {
        OysterSecrets x = new OysterSecrets();
        x.image();
        for (int i = 0; i < 8; i++) {
            x.oyster(i % 7, i % 6);
            x.hold(i, i);
        }
        x.go(60);
        Due.due("43: back to year 0", x.undo(), 0);
        Due.due("43: no oysters", x.count(1), 0);
        Due.due("43: no spot holds one", x.count(7), 0);
        Due.due("43: the first again", x.oyster(3, 3), 0);
        int[] first = {3, 3, 10, 0, 0, 0};
        for (int what = 0; what < 6; what++) {
            Due.due("43: nothing of the former one", x.of(0, what), first[what]);
        }
        OysterSecrets full = Edge.full();
        full.image();
        Due.due("43: undo()", full.undo(), 0);
        Due.due("43: eight oysters", full.count(1), 8);
        Due.due("43: a 9th", full.oyster(0, 0), Due.FULL);
    }

    /** Promise 43: "It becomes what was kept latest (which stays): YEAR." */
    private static void theLatestStays() {
        OysterSecrets x = new OysterSecrets();
        x.image();
        x.go(1);
        x.image();
        x.go(1);
        for (int i = 0; i < 3; i++) {
            Due.due("43: the latest", x.undo(), 1);
            x.go(60);
        }
        x.undo();
        x.bed(0, 0, 5);
        x.undo();
        Due.due("43: what is changed behind it isn't kept", x.bedOf(0, 0), 120);
        x.bed(0, 0, 5);
        x.image();
        x.bed(0, 0, 6);
        x.undo();
        Due.due("43: what is changed ahead of it is", x.bedOf(0, 0), 5);
    }

    /** Promise 43: "NONE: nothing is kept.": at first, and behind tear() */
    private static void nothingIsKept() {
        Edge.refused("43: at first", Edge::fresh, x -> x.undo(), Due.NONE);
        Edge.refused("43: behind tear()", () -> {
            OysterSecrets x = Edge.busy();
            x.tear();
            return x;
        }, x -> x.undo(), Due.NONE);
        Edge.changesNothing("43: undo() at once", () -> {
            OysterSecrets x = Edge.busy();
            x.image();
            return x;
        }, x -> x.undo());
    }

    /** Promise 44: "1 if something was, else 0" */
    private static void tears() {
        OysterSecrets x = new OysterSecrets();
        Due.due("44: at first", x.tear(), 0);
        x.image();
        x.image();
        Due.due("44: of two the latest alone is kept", x.tear(), 1);
        Due.due("44: then nothing is", x.tear(), 0);
        Due.due("44: nor is the former one", x.undo(), Due.NONE);
        x.image();
        Due.due("44: it can be kept again", x.undo(), 0);
        Due.due("44: undo() doesn't tear", x.tear(), 1);
        Due.due("44: no tear() is a finding", x.status(-1), 1);
        Edge.changesNothing("44: of nothing", Edge::fresh, y -> y.tear());
    }

    /** Promise 45: what 0 to 7; "BEYOND: another what." */
    private static void countWhats() {
        Edge.within("45: what", Edge::busy, (x, what) -> x.count(what), 0, 7);
        Edge.within("45: what, of a new one", Edge::fresh, (x, what) -> x.count(what), 0, 7);
        for (int what = 0; what < 8; what++) {
            int w = what;
            Edge.changesNothing("45: count(" + what + ")", Edge::busy, x -> x.count(w));
        }
    }

    /** Promise 45: with nothing, and with the most that there can be */
    private static void leastAndMost() {
        OysterSecrets none = new OysterSecrets();
        OysterSecrets most = new OysterSecrets();
        for (int i = 0; i < 8; i++) {
            most.oyster(0, 0);
            most.change(i, 3, 999);
            most.change(i, 5, 999);
            most.change(i, 2, 0);
        }
        Due.feed(most, " ".repeat(120));
        for (int spot = 0; spot < 10; spot++) {
            most.hold(spot, spot % 8);
        }
        most.seed(Integer.MIN_VALUE);
        int[] least = {0, 0, 0, 0, 0, 0, 1, 0};
        int[] greatest = {0, 8, 8, 7992, 7992, 120, Integer.MIN_VALUE, 10};
        for (int what = 0; what < 8; what++) {
            Due.due("45: of nothing count(" + what + ")", none.count(what), least[what]);
            Due.due("45: of the most count(" + what + ")", most.count(what), greatest[what]);
        }
    }

    /** Promise 46: "which -1: all, 0 to 6: BEYOND to SIZE. BEYOND (counted from then on): another one." */
    private static void statusWhich() {
        Edge.within("46: which", Edge::busy, (x, which) -> x.status(which), -1, 6);
        Edge.within("46: which, of a new one", Edge::fresh, (x, which) -> x.status(which), -1, 6);
        OysterSecrets x = new OysterSecrets();
        Due.due("46: which 7", x.status(7), Due.BEYOND);
        Due.due("46: counted from then on", x.status(0), 1);
        Due.due("46: which -2", x.status(-2), Due.BEYOND);
        Due.due("46: counted from then on", x.status(0), 2);
        Due.due("46: all", x.status(-1), 2);
        Due.due("46: status() counts none of its own that is none", x.status(-1), 2);
    }

    /** Promise 46: each finding by itself */
    private static void eachFinding() {
        Edge.Act[] acts = {y -> y.go(0), y -> y.oyster(0, 0), y -> y.as(1, 1), y -> y.undo(), null, y -> y.load(0),
            y -> y.sheet(0, 8, -1)};
        for (int which = 0; which < 7; which++) {
            OysterSecrets x = which == 4 ? Edge.inYear(99999) : Edge.full();
            if (which == 2) {
                x.hold(1, 0);
            }
            Due.due("46: finding " + which, which == 4 ? x.go(1) : acts[which].on(x), -1000001 - which);
            for (int other = 0; other < 7; other++) {
                Due.due("46: status(" + other + ") behind finding " + which, x.status(other), other == which ? 1 : 0);
            }
            Due.due("46: all behind finding " + which, x.status(-1), 1);
        }
    }

    /** Promise 46: "ever (undo() takes none back)": nor does tear(), nor an image with fewer of them */
    private static void noneIsTakenBack() {
        OysterSecrets x = new OysterSecrets();
        x.go(0);
        x.image();
        x.go(61);
        x.load(0);
        Due.due("46: three", x.status(-1), 3);
        x.undo();
        Due.due("46: three behind undo()", x.status(-1), 3);
        Due.due("46: two of them BEYOND", x.status(0), 2);
        Due.due("46: one of them MISSING", x.status(5), 1);
        x.tear();
        x.wipe();
        Due.due("46: three behind tear() and wipe()", x.status(-1), 3);
        x.undo();
        Due.due("46: four with undo() of nothing", x.status(-1), 4);
        Due.due("46: that is NONE", x.status(3), 1);
    }

    public static void main(String[] args) {
        allIsKept();
        tapeAndSheetsStay();
        emptyAndFull();
        theLatestStays();
        nothingIsKept();
        tears();
        countWhats();
        leastAndMost();
        statusWhich();
        eachFinding();
        noneIsTakenBack();
        Due.end();
    }
}
