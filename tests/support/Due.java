/** Counts and prints the answers that are not the ones due, and names the findings. */
final class Due {
    static final int BEYOND = -1000001;
    static final int FULL = -1000002;
    static final int KIND = -1000003;
    static final int NONE = -1000004;
    static final int STATE = -1000005;
    static final int MISSING = -1000006;
    static final int SIZE = -1000007;

    private static int wrong = 0;

    private Due() {
    }

    static void due(String call, long got, long want) {
        if (got != want) {
            wrong++;
            System.out.println(call + " answered " + got + ", due is " + want);
        }
    }

    static void fault(String what) {
        wrong++;
        System.out.println(what);
    }

    /** Feeds all bytes of a text (of at most 120). */
    static void feed(OysterSecrets x, String text) {
        for (int i = 0; i < text.length(); i += 4) {
            int n = Math.min(4, text.length() - i);
            int bytes = 0;
            for (int k = i; k < i + n; k++) {
                bytes = bytes << 8 | text.charAt(k);
            }
            x.feed(bytes, n);
        }
    }

    /** A sheet of 32 bits with these numbers. */
    static void sheet(OysterSecrets x, int s, int... numbers) {
        x.sheet(s, 32, numbers.length);
        for (int i = 0; i < numbers.length; i++) {
            x.write(s, i, numbers[i]);
        }
    }

    static void end() {
        if (wrong != 0) {
            System.out.println(wrong + " wrong");
            System.exit(1);
        }
    }
}
