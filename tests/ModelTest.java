import java.lang.reflect.InvocationTargetException;
import java.lang.reflect.Method;
import java.lang.reflect.Modifier;
import java.util.ArrayList;
import java.util.Arrays;
import java.util.Comparator;
import java.util.List;
import java.util.Random;

/** All promises: long runs of calls, right and wrong ones, whose answers are compared with the model's. */
public final class ModelTest {
    private static final int RUNS = 300;
    private static final int CALLS = 512;
    private static final int[] EXTREMES = {Integer.MIN_VALUE, Integer.MAX_VALUE, -1, -2, 1000, 100, 41, 10, 8, 7, 6};

    private static final String[] WORDS = {"oyster", "black", "seed", "poor", "moon", "dear", "minister", "bed", "comes",
        "in", "weighs", "layers", "nacre", "cold", ";", "0", "1", "5", "6", "9", "10", "99", "100", "999", "1000", "#"};

    private final Random random;
    private final OysterSecrets program = new OysterSecrets();
    private final Model model = new Model();
    private final List<String> calls = new ArrayList<>();
    private boolean isRight = true;

    private ModelTest(long seed) {
        random = new Random(seed);
    }

    private static List<Method> face() {
        List<Method> face = new ArrayList<>();
        for (Method m : OysterSecrets.class.getDeclaredMethods()) {
            if (Modifier.isPublic(m.getModifiers())) {
                face.add(m);
            }
        }
        face.sort(Comparator.comparing(Method::getName));
        return face;
    }

    private void call(Method m, int... args) {
        Object[] boxed = Arrays.stream(args).boxed().toArray();
        calls.add(m.getName() + Arrays.toString(args));
        try {
            long got = ((Number) m.invoke(program, boxed)).longValue();
            long want = model.call(m.getName(), args);
            if (got != want) {
                isRight = false;
                Due.due(calls + "", got, want);
            }
        } catch (InvocationTargetException e) {
            isRight = false;
            Due.fault(calls + " threw " + e.getCause());
        } catch (IllegalAccessException e) {
            isRight = false;
            Due.fault(e.toString());
        }
    }

    private int pick(int... values) {
        return values[random.nextInt(values.length)];
    }

    private int below(int n) {
        return random.nextInt(n);
    }

    /** Arguments of which most are such as the document lets stand. */
    private int[] arguments(String name) {
        switch (name) {
            case "bed": return below(2) == 0 ? ints(below(6), 0, pick(below(1000), below(30))) : ints(below(6), 1, below(10));
            case "bedOf": return ints(below(6), below(3));
            case "comes": return ints(pick(below(100), below(15)));
            case "oyster": return ints(below(7), pick(below(6), 0));
            case "of": return ints(below(8), below(10));
            case "change": return change();
            case "go": return ints(pick(1, 1, 2, 3, 5, 1 + below(60)));
            case "now": return ints(below(7));
            case "ahead": return ints(below(8), pick(2, 3, 5), pick(below(101), below(8)));
            case "worth": return ints(below(8), pick(below(101), below(8)));
            case "sow": case "kindFor": case "weightFor": case "comesFor": case "coldFor":
                return ints(below(8), pick(below(41), below(6)));
            case "room": return ints(below(8), pick(below(1000), below(60)), pick(below(21), below(4)));
            case "alike": return ints(below(8), pick(below(1000), below(20)));
            case "string": case "pairs": return ints(pick(below(1000), below(20)));
            case "fits": case "weighed": case "kinds": return ints(below(4), below(8));
            case "storms": return ints(1 + pick(0, 1, below(20)));
            case "odds": return ints(below(21), below(2));
            case "seed": return ints(random.nextInt());
            case "feed": return ints(random.nextInt(), 1 + below(4));
            case "hold": return ints(below(10), below(9) - 1);
            case "as": return ints(below(10), below(7));
            case "sheet": return ints(below(4), pick(0, 8, 16, 16, 32), pick(below(41), below(9)));
            case "write": return ints(below(4), pick(below(40), below(4)), pick(random.nextInt(), below(1000), -1, below(300)));
            case "copy": return ints(below(4), below(6), below(4), below(6), below(9));
            case "load": case "judge": return ints(below(4));
            case "count": return ints(below(8));
            case "status": return ints(below(8) - 1);
            case "hidden": case "told": case "dive": case "open": return ints(below(8));
            default: return ints();
        }
    }

    private int[] change() {
        int what = below(6);
        int[] most = {6, 5, 99, 999, 999, 999};
        return ints(below(8), what, pick(below(most[what] + 1), Math.min(most[what], below(40)), 0));
    }

    private static int[] ints(int... values) {
        return values;
    }

    private void anyCall(List<Method> face) {
        Method m = face.get(below(face.size()));
        int[] args = arguments(m.getName());
        // An object that is often taken back to its first years never comes to its later ones.
        if ((m.getName().equals("undo") || m.getName().equals("open")) && below(3) > 0) {
            return;
        }
        if (below(12) == 0 && args.length > 0) {
            args[below(args.length)] = pick(EXTREMES);
        }
        call(m, args);
    }

    private String randomText() {
        StringBuilder text = new StringBuilder();
        int items = 1 + below(4);
        for (int i = 0; i < items; i++) {
            text.append(i == 0 ? "" : ";").append(pick(0, 0, 1) == 0 ? " " : "").append(randomItem());
        }
        if (below(3) == 0) {
            int at = below(text.length() + 1);
            text.insert(at, pick(0, 1) == 0 ? " " + WORDS[below(WORDS.length)] + " " : (char) (below(127) + 1) + "");
        }
        return text.toString();
    }

    private String randomItem() {
        if (below(4) == 0) {
            return "comes" + below(105);
        }
        if (below(3) == 0) {
            return "bed " + below(7) + option("nacre", 1010) + option("cold", 11);
        }
        return WORDS[below(7)] + option("in", 7) + option("weighs", 101) + option("layers", 1010);
    }

    private String option(String word, int most) {
        return below(2) == 0 ? "" : " " + word + " " + pick(below(most), below(Math.min(most, 12)));
    }

    private void text(Method feed, Method text) {
        String bytes = randomText();
        for (int i = 0; i < bytes.length() && i < 120; i++) {
            call(feed, bytes.charAt(i), 1);
        }
        call(text);
    }

    /** Writes what an oyster's layers will be, so that there is something that fits. */
    private void tellLayers(List<Method> face) {
        int oyster = below(8);
        int s = below(4);
        int n = 1 + below(6);
        call(named(face, "sheet"), s, 32, n);
        for (int i = 0; i < n; i++) {
            long layers = model.call("ahead", oyster, 3, i);
            program.ahead(oyster, 3, i);
            call(named(face, "write"), s, i, below(4) == 0 || layers < 0 ? -1 : (int) layers);
        }
        call(named(face, "fits"), s, oyster);
        call(named(face, "weighed"), s, oyster);
        call(named(face, "kinds"), s, oyster);
    }

    private static Method named(List<Method> face, String name) {
        for (Method m : face) {
            if (m.getName().equals(name)) {
                return m;
            }
        }
        throw new IllegalStateException(name);
    }

    private void run() {
        List<Method> face = face();
        int oysters = below(9);
        for (int i = 0; i < oysters; i++) {
            call(named(face, "oyster"), below(7), pick(0, 0, below(6)));
        }
        while (calls.size() < CALLS && isRight) {
            int turn = below(60);
            if (turn == 0) {
                text(named(face, "feed"), named(face, "text"));
            } else if (turn == 1) {
                tellLayers(face);
            } else {
                anyCall(face);
            }
        }
    }

    /** Every call with every mixture of extreme arguments, on an object in use: none may throw. */
    private void extremes() {
        List<Method> face = face();
        for (int i = 0; i < 5; i++) {
            call(named(face, "oyster"), i, i % 2);
        }
        call(named(face, "sheet"), 0, 8, 40);
        call(named(face, "sheet"), 1, 8, 3);
        int[] values = {Integer.MIN_VALUE, Integer.MIN_VALUE + 1, -1000001, -1, 0, 1, 3, 8, 40, 1 << 30,
            Integer.MAX_VALUE - 1, Integer.MAX_VALUE};
        for (Method m : face) {
            int mixtures = (int) Math.pow(values.length, Math.min(4, m.getParameterCount()));
            for (int k = 0; k < mixtures && isRight; k++) {
                int[] args = new int[m.getParameterCount()];
                int rest = k;
                for (int i = 0; i < args.length; i++) {
                    args[i] = values[(rest + (i == 4 ? k / 7 : 0)) % values.length];
                    rest /= values.length;
                }
                calls.clear();
                call(m, args);
            }
        }
    }

    public static void main(String[] args) {
        int runs = args.length > 0 ? Integer.parseInt(args[0]) : RUNS;
        long seed = args.length > 1 ? Long.parseLong(args[1]) : 1;
        int right = 0;
        for (int i = 0; i < runs && right == i; i++) {
            ModelTest test = new ModelTest(seed + i);
            test.run();
            right += test.isRight ? 1 : 0;
        }
        new ModelTest(seed).extremes();
        Due.end();
    }
}
