/** All that the face tells of an object, but how many findings there were. An object is used up by it. */
final class Trace {
    private final OysterSecrets x;
    private final StringBuilder told = new StringBuilder();

    private Trace(OysterSecrets x) {
        this.x = x;
    }

    /** Some 350 calls, so that an object with 150 behind it stays within the 512 that are promised. */
    static String of(OysterSecrets x) {
        Trace trace = new Trace(x);
        trace.state("now");
        trace.whatWillBe();
        trace.tell("text()", x.text());
        trace.state("behind text()");
        trace.tell("undo()", x.undo());
        trace.state("behind undo()");
        for (int s = 0; s < 4; s++) {
            for (int t = s + 1; t < 4; t++) {
                trace.tell("copy(" + s + ", 0, " + t + ", 0, 0)", x.copy(s, 0, t, 0, 0));
            }
        }
        for (int s = 0; s < 4; s++) {
            trace.sheet(s);
        }
        return trace.told.toString();
    }

    /** Tells the first call whose answer tells two objects apart. */
    static void same(String sentence, OysterSecrets x, OysterSecrets twin) {
        String[] got = of(x).split("\n");
        String[] want = of(twin).split("\n");
        for (int i = 0; i < Math.max(got.length, want.length); i++) {
            String one = i < got.length ? got[i] : "nothing";
            String other = i < want.length ? want[i] : "nothing";
            if (!one.equals(other)) {
                Due.fault(sentence + ": then " + one + ", but " + other + " without it");
                return;
            }
        }
    }

    private void tell(String call, long answer) {
        told.append(call).append(" tells ").append(answer).append('\n');
    }

    private void state(String when) {
        for (int b = 0; b < 6; b++) {
            tell(when + " bedOf(" + b + ", 0)", x.bedOf(b, 0));
            tell(when + " bedOf(" + b + ", 1)", x.bedOf(b, 1));
        }
        int comes = x.comes(0);
        x.comes(comes);
        tell(when + " comes(0)", comes);
        for (int what : new int[] {0, 1, 5, 6}) {
            tell(when + " count(" + what + ")", x.count(what));
        }
        int oysters = x.count(1);
        for (int i = 0; i < oysters; i++) {
            for (int what = 0; what < 6; what++) {
                tell(when + " of(" + i + ", " + what + ")", x.of(i, what));
            }
        }
        for (int spot = 0; spot < 10; spot++) {
            tell(when + " as(" + spot + ", 0)", x.as(spot, 0));
        }
    }

    private void whatWillBe() {
        int oysters = x.count(1);
        for (int i = 0; i < oysters; i++) {
            tell("ahead(" + i + ", 3, 9)", x.ahead(i, 3, 9));
        }
        tell("match()", x.match());
    }

    // Numbers that load() brings are told; one that it stops at is told as one that isn't 0 to 999.
    private void sheet(int s) {
        int left = sizeOf(s);
        tell("the size of sheet " + s, left);
        boolean isThere = left > 0;
        while (left > 0) {
            int came = Math.min(left, x.load(s));
            tell("load(" + s + ") with " + left + " left", came);
            for (int b = 0; b < came; b++) {
                tell("number " + b + " with " + left + " left of sheet " + s, x.bedOf(b, 0));
            }
            int passed = Math.max(1, came);
            left -= passed;
            x.copy(s, passed, s, 0, left);
        }
        for (int v = 256; isThere && v <= 65536; v *= 256) {
            x.write(s, 0, v);
            tell("load(" + s + ") of " + v, Math.min(1, x.load(s)));
            tell("bedOf(0, 0) behind it", x.bedOf(0, 0));
        }
    }

    /** How many numbers a sheet has; a finding, if it is missing. */
    private int sizeOf(int s) {
        int least = x.copy(s, 0, s, 0, 0);
        int most = least < 0 ? least : 40;
        while (least < most) {
            int middle = (least + most + 1) / 2;
            if (x.copy(s, 0, s, 0, middle) == middle) {
                least = middle;
            } else {
                most = middle - 1;
            }
        }
        return least;
    }
}
