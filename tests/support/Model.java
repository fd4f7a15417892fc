import java.math.BigInteger;
import java.util.ArrayList;
import java.util.HashMap;
import java.util.List;
import java.util.Map;
import java.util.TreeMap;
import java.util.function.Consumer;
import java.util.regex.Matcher;
import java.util.regex.Pattern;

/** The document once more, by other means than the program's and with no care for cost: what each call should answer. */
final class Model {
    private static final String[] NAMES = {"oyster", "black", "seed", "poor", "moon", "dear", "minister"};
    private static final Map<Integer, Integer> UNDER = Map.of(1, 0, 2, 0, 5, 0, 3, 2, 4, 3, 6, 1);
    private static final int[] TOP = {6, 5, 99, 999, 999, 999};

    /** An oyster's numbers in the order of of(): kind, bed, weight, layers, age, shown. */
    private static final class World {
        int[][] beds = new int[6][];
        List<int[]> oysters = new ArrayList<>();
        Map<Integer, Integer> spots = new TreeMap<>();
        int comes = 20;
        int year = 0;
        int z = 1;
        int lifted = 0;

        World() {
            for (int b = 0; b < 6; b++) {
                beds[b] = new int[] {100, 3};
            }
        }

        World twin() {
            World w = new World();
            for (int b = 0; b < 6; b++) {
                w.beds[b] = beds[b].clone();
            }
            for (int[] o : oysters) {
                w.oysters.add(o.clone());
            }
            w.spots.putAll(spots);
            w.comes = comes;
            w.year = year;
            w.z = z;
            return w;
        }

        int takes(int kind, int[] o) {
            switch (kind) {
                case 0: return 6;
                case 1: return takes(0, o) + o[2] / 10;
                case 2: return takes(0, o) / 2;
                case 3: return takes(2, o) - 1;
                case 4: return o[4] % 2 == 0 ? takes(3, o) : 0;
                case 5: return takes(0, o) + Math.min(o[4] / 10, 9);
                default: return takes(1, o) * 2;
            }
        }

        int needs(int kind, int[] o) {
            switch (kind) {
                case 0: return o[2];
                case 1: return needs(0, o) * 2;
                case 2: return needs(0, o) / 2;
                case 3: return Math.max(needs(2, o) - beds[o[1]][1], 0);
                case 4: return needs(3, o);
                case 5: return Math.max(needs(0, o) - 5, 0);
                default: return needs(1, o) + 10;
            }
        }

        boolean opens(int kind, int[] o) {
            switch (kind) {
                case 0: return beds[o[1]][1] < 3;
                case 1: return o[2] <= 50 && opens(0, o);
                case 3: return true;
                case 4: return year % 3 == 2;
                case 6: return false;
                default: return opens(0, o);
            }
        }

        int price(int kind, int[] o) {
            switch (kind) {
                case 0: return o[3];
                case 1: return price(0, o) + o[2];
                case 2: return price(0, o) / 2;
                case 3: return price(2, o);
                case 4: return price(2, o);
                case 5: return price(0, o) * 3;
                default: return Math.max(price(1, o) - 10 * o[5], 0);
            }
        }

        int worth(int[] o) {
            return o[2] == 0 ? 0 : price(o[0], o);
        }

        boolean hidden(int[] o) {
            return o[2] != 0 && o[3] >= needs(o[0], o);
        }

        World after(int n) {
            World w = twin();
            w.lifted = lifted;
            for (int i = 0; i < n; i++) {
                w.year();
            }
            return w;
        }

        void year() {
            for (int i = 0; i < oysters.size(); i++) {
                int[] o = oysters.get(i);
                if (o[2] > 0 && (lifted >> i & 1) == 0) {
                    int t = takes(o[0], o);
                    if (t > beds[o[1]][0]) {
                        t = beds[o[1]][0];
                    }
                    beds[o[1]][0] -= t;
                    o[3] = Math.min(o[3] + t, 999);
                }
            }
            for (int[] o : oysters) {
                if (o[2] > 0 && o[3] < needs(o[0], o) && opens(o[0], o)) {
                    o[5] = Math.min(o[5] + 1, 999);
                    o[2] = o[2] < 7 ? 0 : o[2] - 7;
                }
            }
            oysters.forEach(o -> o[4] = Math.min(o[4] + 1, 999));
            for (int[] b : beds) {
                b[0] = Math.min(b[0] + comes, 999);
            }
            year = Math.min(year + 1, 99999);
        }

        int sum(int what) {
            return oysters.stream().mapToInt(o -> what == 9 ? worth(o) : o[what]).sum();
        }

        int draw() {
            z = BigInteger.valueOf(z).multiply(BigInteger.valueOf(1103515245)).add(BigInteger.valueOf(12345)).intValue();
            return (int) ((z & 0xffffffffL) / 256);
        }
    }

    private World w = new World();
    private World image = null;
    private final List<Integer> tape = new ArrayList<>();
    private final int[][] sheets = new int[4][];
    private final int[] bits = new int[4];
    private final Map<Long, Integer> told = new HashMap<>();

    /** Answers the call of this name. */
    long call(String name, int... a) {
        long answer = answer(name, a);
        boolean free = name.equals("seed") || name.equals("count") && a[0] == 6;
        if (answer < -1000000 && !free) {
            told.merge(-1000001 - answer, 1, Integer::sum);
        }
        return answer;
    }

    private static boolean in(int v, int low, int high) {
        return low <= v && v <= high;
    }

    private boolean is(int oyster) {
        return in(oyster, 0, w.oysters.size() - 1);
    }

    private long answer(String name, int[] a) {
        switch (name) {
            case "bed": case "bedOf": case "comes": case "oyster": case "of": case "change": case "open":
                return beds(name, a);
            case "go": case "now": case "ahead": case "worth": case "hidden": case "told": case "dive":
                return years(name, a);
            case "sow": case "kindFor": case "weightFor": case "comesFor": case "coldFor": case "room":
                return where(name, a);
            case "alike": case "string": case "pairs": case "match":
                return strings(name, a);
            case "fits": case "weighed": case "kinds":
                return layers(name, a);
            case "storms": case "odds": case "seed":
                return storms(name, a);
            case "feed": case "wipe": case "text":
                return texts(name, a);
            case "image": case "undo": case "tear": case "count": case "status":
                return images(name, a);
            default:
                return sheets(name, a);
        }
    }

    private long beds(String name, int[] a) {
        switch (name) {
            case "bed": {
                if (!in(a[0], 0, 5) || !in(a[1], 0, 1) || !in(a[2], 0, a[1] == 0 ? 999 : 9)) return Due.BEYOND;
                int was = w.beds[a[0]][a[1]];
                w.beds[a[0]][a[1]] = a[2];
                return was;
            }
            case "bedOf": {
                if (!in(a[0], 0, 5) || !in(a[1], 0, 2)) return Due.BEYOND;
                return a[1] < 2 ? w.beds[a[0]][a[1]] : set(i -> w.oysters.get(i)[1] == a[0]);
            }
            case "comes": {
                if (!in(a[0], 0, 99)) return Due.BEYOND;
                int was = w.comes;
                w.comes = a[0];
                return was;
            }
            case "oyster": {
                if (!in(a[0], 0, 6) || !in(a[1], 0, 5)) return Due.BEYOND;
                if (w.oysters.size() == 8) return Due.FULL;
                w.oysters.add(new int[] {a[0], a[1], 10, 0, 0, 0});
                return w.oysters.size() - 1;
            }
            case "of": {
                if (!is(a[0]) || !in(a[1], 0, 9)) return Due.BEYOND;
                int[] o = w.oysters.get(a[0]);
                if (a[1] < 6) return o[a[1]];
                if (a[1] == 6) return w.takes(o[0], o);
                if (a[1] == 7) return w.needs(o[0], o);
                if (a[1] == 8) return w.opens(o[0], o) ? 1 : 0;
                return w.worth(o);
            }
            case "change": {
                if (!is(a[0]) || !in(a[1], 0, 5) || !in(a[2], 0, TOP[a[1]])) return Due.BEYOND;
                int was = w.oysters.get(a[0])[a[1]];
                w.oysters.get(a[0])[a[1]] = a[2];
                return was;
            }
            default: {
                if (!is(a[0])) return Due.BEYOND;
                int[] o = w.oysters.get(a[0]);
                int worth = w.worth(o);
                w.oysters.set(a[0], new int[] {o[0], o[1], 0, 0, 0, 0});
                return worth;
            }
        }
    }

    private interface Test {
        boolean of(int i);
    }

    private int set(Test test) {
        int set = 0;
        for (int i = 7; i >= 0; i--) {
            set = set * 2 + (is(i) && test.of(i) ? 1 : 0);
        }
        return set;
    }

    private long first(int from, int to, Test test) {
        for (int i = from; i <= to; i++) {
            if (test.of(i)) return i;
        }
        return Due.NONE;
    }

    private long years(String name, int[] a) {
        if (name.equals("go")) {
            if (!in(a[0], 1, 60)) return Due.BEYOND;
            if (w.year > 99999 - a[0]) return Due.STATE;
            w = w.after(a[0]);
            return w.sum(3);
        }
        if (name.equals("now")) {
            switch (a[0]) {
                case 0: return w.year;
                case 1: return w.sum(3);
                case 2: return set(i -> w.oysters.get(i)[2] == 0);
                case 3: return set(i -> w.hidden(w.oysters.get(i)));
                case 4: return w.beds[0][0] + w.beds[1][0] + w.beds[2][0] + w.beds[3][0] + w.beds[4][0] + w.beds[5][0];
                case 5: return w.sum(9);
                case 6: return w.sum(5);
                default: return Due.BEYOND;
            }
        }
        if (!is(a[0])) return Due.BEYOND;
        switch (name) {
            case "ahead": {
                if (a[1] != 2 && a[1] != 3 && a[1] != 5 || !in(a[2], 0, 100)) return Due.BEYOND;
                return w.after(a[2]).oysters.get(a[0])[a[1]];
            }
            case "worth": {
                if (!in(a[1], 0, 100)) return Due.BEYOND;
                World then = w.after(a[1]);
                return then.worth(then.oysters.get(a[0]));
            }
            default: {
                List<World> all = new ArrayList<>(List.of(w.after(0)));
                while (all.size() <= 200) {
                    all.add(all.get(all.size() - 1).after(1));
                }
                if (name.equals("hidden")) return first(0, 200, n -> all.get(n).hidden(all.get(n).oysters.get(a[0])));
                if (name.equals("told")) return first(0, 200, n -> all.get(n).oysters.get(a[0])[2] == 0);
                int most = 0;
                for (World v : all.subList(0, 61)) {
                    most = Math.max(most, v.worth(v.oysters.get(a[0])));
                }
                int best = most;
                return first(0, 60, n -> all.get(n).worth(all.get(n).oysters.get(a[0])) == best);
            }
        }
    }

    private World with(int n, Consumer<World> change) {
        World v = w.twin();
        change.accept(v);
        return v.after(n);
    }

    private long where(String name, int[] a) {
        if (!is(a[0])) return Due.BEYOND;
        int i = a[0];
        int n = a[a.length - 1];
        if (!in(n, 0, name.equals("room") ? 20 : 40)) return Due.BEYOND;
        long best = Due.NONE;
        long most = -1;
        switch (name) {
            case "sow":
                for (int b = 5; b >= 0; b--) {
                    int bed = b;
                    int v = with(n, x -> x.oysters.get(i)[1] = bed).oysters.get(i)[3];
                    if (v >= most) {
                        most = v;
                        best = b;
                    }
                }
                return best;
            case "kindFor":
                for (int k = 6; k >= 0; k--) {
                    int kind = k;
                    World then = with(n, x -> x.oysters.get(i)[0] = kind);
                    int v = then.worth(then.oysters.get(i));
                    if (v >= most) {
                        most = v;
                        best = k;
                    }
                }
                return best;
            case "weightFor":
                for (int g = 1; g <= 99; g++) {
                    int weight = g;
                    World then = with(n, x -> x.oysters.get(i)[2] = weight);
                    if (then.hidden(then.oysters.get(i))) best = g;
                }
                return best;
            case "comesFor":
                return first(0, 99, c -> {
                    World then = with(n, x -> x.comes = c);
                    return then.hidden(then.oysters.get(i));
                });
            case "coldFor":
                return first(0, 9, c -> with(n, x -> x.beds[x.oysters.get(i)[1]][1] = c).oysters.get(i)[5]
                    == w.oysters.get(i)[5]);
            default:
                return room(i, a[1], n);
        }
    }

    private long room(int i, int v, int n) {
        if (!in(v, 0, 999)) return Due.BEYOND;
        for (int size = 0; size < 8; size++) {
            for (int set = 0; set < 256; set++) {
                int lifted = set;
                boolean stands = Integer.bitCount(set) == size && (set >> i & 1) == 0 && set < 1 << w.oysters.size();
                if (stands && with(n, x -> x.lifted = lifted).oysters.get(i)[3] >= v) return set;
            }
        }
        return Due.NONE;
    }

    private boolean alike(int i, int j, int v) {
        return Math.abs(w.oysters.get(i)[3] - w.oysters.get(j)[3]) <= v;
    }

    /** The longest row that can be put behind i of oysters that aren't in a set. */
    private int longest(int i, int used, int v) {
        int most = 0;
        for (int j = 0; j < w.oysters.size(); j++) {
            if ((used >> j & 1) == 0 && (i < 0 || alike(i, j, v))) {
                most = Math.max(most, 1 + longest(j, used | 1 << j, v));
            }
            if (most == w.oysters.size() - Integer.bitCount(used)) return most;
        }
        return most;
    }

    private int mostPairs(int used, int v) {
        int most = 0;
        for (int i = 0; i < w.oysters.size(); i++) {
            for (int j = 0; j < i; j++) {
                if ((used >> i & 1) == 0 && (used >> j & 1) == 0 && alike(i, j, v)) {
                    most = Math.max(most, 1 + mostPairs(used | 1 << i | 1 << j, v));
                }
            }
        }
        return most;
    }

    private long strings(String name, int[] a) {
        switch (name) {
            case "alike":
                if (!is(a[0]) || !in(a[1], 0, 999)) return Due.BEYOND;
                return set(i -> alike(i, a[0], a[1]));
            case "string":
                return in(a[0], 0, 999) ? longest(-1, 0, a[0]) : Due.BEYOND;
            case "pairs":
                return in(a[0], 0, 999) ? mostPairs(0, a[0]) : Due.BEYOND;
            default: {
                // Only differences can be the least v.
                TreeMap<Integer, Integer> differences = new TreeMap<>(Map.of(0, 0));
                for (int[] o : w.oysters) {
                    for (int[] p : w.oysters) {
                        differences.put(Math.abs(o[3] - p[3]), 0);
                    }
                }
                for (int v : differences.keySet()) {
                    if (longest(-1, 0, v) == w.oysters.size()) return v;
                }
                return Long.MIN_VALUE;
            }
        }
    }

    private boolean grows(int s, int i, int what, int v) {
        World then = with(0, x -> x.oysters.get(i)[what] = v);
        for (int want : sheets[s]) {
            if (want != -1 && then.oysters.get(i)[3] != want) return false;
            then = then.after(1);
        }
        return true;
    }

    private long layers(String name, int[] a) {
        if (!in(a[0], 0, 3)) return Due.BEYOND;
        if (sheets[a[0]] == null) return Due.MISSING;
        if (!is(a[1])) return Due.BEYOND;
        if (name.equals("weighed")) return first(1, 99, g -> grows(a[0], a[1], 2, g));
        int fits = 0;
        for (int g = 1; g <= 99; g++) {
            if (grows(a[0], a[1], 2, g)) fits++;
        }
        int kinds = 0;
        for (int k = 0; k < 7; k++) {
            if (grows(a[0], a[1], 0, k)) kinds |= 1 << k;
        }
        return name.equals("fits") ? fits : kinds;
    }

    private long storms(String name, int[] a) {
        if (name.equals("seed")) {
            int was = w.z;
            w.z = a[0];
            return was;
        }
        if (name.equals("storms")) {
            if (!in(a[0], 1, 20)) return Due.BEYOND;
            if (w.year > 99999 - a[0]) return Due.STATE;
            for (int i = 0; i < a[0]; i++) {
                int oyster = w.draw() % 8;
                int bed = w.draw() % 6;
                if (is(oyster)) w.oysters.get(oyster)[1] = bed;
                w.year();
            }
            return w.sum(3);
        }
        if (!in(a[0], 0, 20) || !in(a[1], 0, 1)) return Due.BEYOND;
        long open = w.oysters.stream().filter(o -> !w.hidden(o)).count();
        BigInteger above = BigInteger.valueOf(open).pow(a[0]);
        BigInteger below = BigInteger.valueOf(8).pow(a[0]);
        BigInteger gcd = above.gcd(below);
        return (a[1] == 0 ? above : below).divide(gcd).longValueExact();
    }

    private long texts(String name, int[] a) {
        int had = tape.size();
        if (name.equals("wipe")) {
            tape.clear();
            return had;
        }
        if (name.equals("feed")) {
            if (!in(a[1], 1, 4)) return Due.BEYOND;
            if (had + a[1] > 120) return Due.FULL;
            for (int i = 0; i < a[1]; i++) {
                tape.add(had, a[0] >> 8 * i & 255);
            }
            return tape.size();
        }
        StringBuilder text = new StringBuilder();
        tape.forEach(b -> text.append((char) (int) b));
        tape.clear();
        return text(text.toString());
    }

    /** The fault is where the longest begin of a text that can go on ends: tried token by token. */
    private long text(String text) {
        World then = w.twin();
        List<String> tokens = new ArrayList<>();
        List<Integer> places = new ArrayList<>();
        Matcher m = Pattern.compile("[a-z]+|[0-9]+|;|[^ ]", Pattern.DOTALL).matcher(text);
        while (m.find()) {
            tokens.add(m.group());
            places.add(m.start());
        }
        tokens.add("");
        places.add(text.length());
        int at = 0;
        for (int items = 1; ; items++) {
            at = item(then, tokens, at);
            if (at < 0) return -1 - places.get(-1 - at);
            String next = tokens.get(at);
            if (next.isEmpty()) {
                w = then;
                return items;
            }
            if (!next.equals(";")) return -1 - places.get(at);
            at++;
        }
    }

    private static boolean isNumber(String token, int most) {
        return token.matches("[0-9]+") && new BigInteger(token).compareTo(BigInteger.valueOf(most)) <= 0;
    }

    /** Where the item that begins at a token ends; or -1 less the token that can't stand there. */
    private static int item(World then, List<String> tokens, int at) {
        String word = tokens.get(at);
        int kind = List.of(NAMES).indexOf(word);
        if (word.equals("comes") || word.equals("bed")) {
            boolean isBed = word.equals("bed");
            if (!isNumber(tokens.get(at + 1), isBed ? 5 : 99)) return -2 - at;
            int number = Integer.parseInt(tokens.get(at + 1));
            if (!isBed) {
                then.comes = number;
                return at + 2;
            }
            return options(tokens, at + 2, new String[] {"nacre", "cold"}, new int[] {999, 9}, then.beds[number]);
        }
        if (kind < 0 || then.oysters.size() == 8) return -1 - at;
        int[] told = {0, 10, 0};
        int end = options(tokens, at + 1, new String[] {"in", "weighs", "layers"}, new int[] {5, 99, 999}, told);
        then.oysters.add(new int[] {kind, told[0], told[1], told[2], 0, 0});
        return end;
    }

    private static int options(List<String> tokens, int from, String[] words, int[] most, int[] told) {
        int at = from;
        for (int i = 0; i < words.length; i++) {
            if (tokens.get(at).equals(words[i])) {
                if (!isNumber(tokens.get(at + 1), most[i])) return -2 - at;
                told[i] = Integer.parseInt(tokens.get(at + 1));
                at += 2;
            }
        }
        return at;
    }

    private long sheets(String name, int[] a) {
        if (name.equals("hold")) {
            if (!in(a[0], 0, 9) || a[1] != -1 && !is(a[1])) return Due.BEYOND;
            w.spots.remove(a[0]);
            if (a[1] >= 0) w.spots.put(a[0], a[1]);
            return 1;
        }
        if (name.equals("as")) {
            if (!in(a[0], 0, 9) || !in(a[1], 0, 6)) return Due.BEYOND;
            if (!w.spots.containsKey(a[0])) return Due.MISSING;
            Integer kind = w.oysters.get(w.spots.get(a[0]))[0];
            while (kind != null && kind != a[1]) {
                kind = UNDER.get(kind);
            }
            return kind == null ? Due.KIND : w.spots.get(a[0]);
        }
        if (!in(a[0], 0, 3)) return Due.BEYOND;
        int[] sheet = sheets[a[0]];
        if (name.equals("sheet")) {
            if (a[1] != 0 && a[1] != 8 && a[1] != 16 && a[1] != 32) return Due.BEYOND;
            if (a[2] < 0) return Due.SIZE;
            if (a[2] > 40) return Due.BEYOND;
            sheets[a[0]] = a[1] == 0 ? null : new int[a[2]];
            bits[a[0]] = a[1];
            return a[1] == 0 ? 0 : a[2];
        }
        if (name.equals("copy")) {
            if (!in(a[2], 0, 3)) return Due.BEYOND;
            int[] to = sheets[a[2]];
            if (sheet == null || to == null) return Due.MISSING;
            if (bits[a[0]] != bits[a[2]]) return Due.KIND;
            if (a[1] < 0 || a[3] < 0 || a[4] < 0) return Due.BEYOND;
            if ((long) a[1] + a[4] > sheet.length || (long) a[3] + a[4] > to.length) return Due.BEYOND;
            int[] were = sheet.clone();
            for (int i = 0; i < a[4]; i++) {
                to[a[3] + i] = were[a[1] + i];
            }
            return a[4];
        }
        if (sheet == null) return Due.MISSING;
        if (name.equals("write")) {
            if (!in(a[1], 0, sheet.length - 1)) return Due.BEYOND;
            int shift = 32 - bits[a[0]];
            sheet[a[1]] = a[2] << shift >> shift;
            return 1;
        }
        if (name.equals("load")) {
            for (int i = 0; ; i++) {
                if (i == 6 || i == sheet.length || !in(sheet[i], 0, 999)) return i;
                w.beds[i][0] = sheet[i];
            }
        }
        for (int i = 0; i < sheet.length; i++) {
            if (!is(i) || w.oysters.get(i)[3] != sheet[i]) return i + 1;
        }
        return 0;
    }

    private long images(String name, int[] a) {
        switch (name) {
            case "image":
                image = w.twin();
                return 1;
            case "undo":
                if (image == null) return Due.NONE;
                w = image.twin();
                return w.year;
            case "tear": {
                int was = image == null ? 0 : 1;
                image = null;
                return was;
            }
            case "count": {
                if (!in(a[0], 0, 7)) return Due.BEYOND;
                long toldOnes = w.oysters.stream().filter(o -> o[2] == 0).count();
                return List.of((long) w.year, (long) w.oysters.size(), toldOnes, (long) w.sum(3), (long) w.sum(5),
                    (long) tape.size(), (long) w.z, (long) w.spots.size()).get(a[0]);
            }
            default:
                if (!in(a[0], -1, 6)) return Due.BEYOND;
                return a[0] >= 0 ? told.getOrDefault((long) a[0], 0)
                    : told.values().stream().mapToInt(i -> i).sum();
        }
    }
}
