/** Edges: what is taken on their one side, and what is refused on their other. */
final class Edge {
    interface Maker {
        OysterSecrets make();
    }

    interface Act {
        long on(OysterSecrets x);
    }

    interface Call {
        long on(OysterSecrets x, int v);
    }

    private Edge() {
    }

    /** An object in use: seven oysters of all kinds, one of them told, a tape, three sheets, spots, an image. */
    static OysterSecrets busy() {
        OysterSecrets x = new OysterSecrets();
        x.bed(1, 0, 40);
        x.bed(1, 1, 1);
        x.bed(4, 1, 0);
        x.comes(7);
        for (int k = 0; k < 6; k++) {
            x.oyster(k, k % 3);
        }
        x.change(0, 3, 50);
        x.change(2, 2, 0);
        x.change(3, 2, 90);
        x.change(4, 5, 8);
        x.seed(4711);
        x.hold(2, 5);
        x.hold(9, 0);
        x.go(3);
        x.image();
        x.go(2);
        x.oyster(6, 4);
        x.hold(0, 6);
        x.sheet(0, 8, 3);
        x.sheet(1, 16, 5);
        x.sheet(2, 32, 8);
        for (int i = 0; i < 8; i++) {
            x.write(0, i % 3, 10 + i);
            x.write(1, i % 5, 300 + i);
            x.write(2, i, 900 + i);
        }
        Due.feed(x, "comes 9");
        return x;
    }

    static OysterSecrets fresh() {
        return new OysterSecrets();
    }

    static OysterSecrets full() {
        OysterSecrets x = new OysterSecrets();
        for (int i = 0; i < 8; i++) {
            x.oyster(i % 7, i % 6);
        }
        return x;
    }

    /** An object whose YEAR is so much; more calls than are promised, since with fewer it can't be come to. */
    static OysterSecrets inYear(int year) {
        OysterSecrets x = new OysterSecrets();
        for (int left = year; left > 0; left -= 60) {
            x.go(Math.min(60, left));
        }
        return x;
    }

    /** It answers the finding, status() counts it, and nothing else tells the object from a twin without it. */
    static void refused(String sentence, Maker maker, Act act, int finding) {
        OysterSecrets x = maker.make();
        OysterSecrets twin = maker.make();
        Due.due(sentence, act.on(x), finding);
        for (int which = -1; which < 7; which++) {
            int more = which == -1 || which == -1000001 - finding ? 1 : 0;
            Due.due(sentence + ": then status(" + which + ")", x.status(which), twin.status(which) + more);
        }
        Trace.same(sentence, x, twin);
    }

    /** It answers no finding, and nothing tells the object from a twin without it. */
    static void changesNothing(String sentence, Maker maker, Act act) {
        OysterSecrets x = maker.make();
        OysterSecrets twin = maker.make();
        if (act.on(x) < -1000000) {
            Due.fault(sentence + " is refused");
        }
        Due.due(sentence + ": then status(-1)", x.status(-1), twin.status(-1));
        Trace.same(sentence, x, twin);
    }

    /** It isn't answered with BEYOND, nor counted as that. */
    static void taken(String sentence, Maker maker, Act act) {
        OysterSecrets x = maker.make();
        int beyond = x.status(0);
        if (act.on(x) == Due.BEYOND) {
            Due.fault(sentence + " is refused");
        }
        Due.due(sentence + ": then status(0)", x.status(0), beyond);
    }

    /** From the least to the most all are taken; those just outside, and the ends of the ints, are BEYOND. */
    static void within(String sentence, Maker maker, Call call, int least, int most) {
        for (int v : new int[] {least, most}) {
            taken(sentence + " with " + v, maker, x -> call.on(x, v));
        }
        for (int v : new int[] {least - 1, most + 1, Integer.MIN_VALUE, Integer.MAX_VALUE}) {
            refused(sentence + " with " + v, maker, x -> call.on(x, v), Due.BEYOND);
        }
    }

    /** OYSTERS that there are: none at first, seven in one in use, eight at most. */
    static void oysters(String sentence, Call call) {
        refused(sentence + " of none", Edge::fresh, x -> call.on(x, 0), Due.BEYOND);
        within(sentence + " of seven", Edge::busy, call, 0, 6);
        within(sentence + " of eight", Edge::full, call, 0, 7);
    }
}
