/** An estuary in whose oysters secrets are sown, covered year by year, and had again as pearls. */
public final class OysterSecrets {
    private static final int LOW = -1000001;
    private static final int BEYOND = 0;
    private static final int FULL = 1;
    private static final int KIND = 2;
    private static final int NONE = 3;
    private static final int STATE = 4;
    private static final int MISSING = 5;
    private static final int SIZE = 6;
    private static final int FINDINGS = 7;

    private static final int BEDS = 6;
    private static final int OYSTERS = 8;
    private static final int SPOTS = 10;
    private static final int SHEETS = 4;
    private static final int SHEET_NUMBERS = 40;
    private static final int TAPE_BYTES = 120;
    private static final int MOST_NACRE = 999;
    private static final int MOST_COLD = 9;
    private static final int MOST_COMES = 99;
    private static final int MOST_WEIGHT = 99;
    private static final int MOST_LAYERS = 999;
    private static final int MOST_AGE = 999;
    private static final int MOST_SHOWN = 999;
    private static final int MOST_YEAR = 99999;
    private static final int NOTHING = -1;
    private static final int ANY = -1;

    private static final int KINDS = 7;
    private static final int OYSTER = 0;
    private static final int BLACK = 1;
    private static final int SEED = 2;
    private static final int POOR = 3;
    private static final int MOON = 4;
    private static final int DEAR = 5;
    private static final int MINISTER = 6;
    private static final int[] KIND_ABOVE = {-1, OYSTER, OYSTER, SEED, POOR, OYSTER, BLACK};

    private static final int WHAT_KIND = 0;
    private static final int WHAT_BED = 1;
    private static final int WHAT_WEIGHT = 2;
    private static final int WHAT_LAYERS = 3;
    private static final int WHAT_AGE = 4;
    private static final int WHAT_SHOWN = 5;
    private static final int[] MOST_OF_WHAT =
        {KINDS - 1, BEDS - 1, MOST_WEIGHT, MOST_LAYERS, MOST_AGE, MOST_SHOWN};

    private final Estuary live;
    private final Estuary trial;
    private final Estuary kept;
    private boolean hasKept;
    private final Tape tape;
    private final Sheet[] sheets;
    private final int[] findings;
    private final int[] sorted;

    public OysterSecrets() {
        live = new Estuary();
        trial = new Estuary();
        kept = new Estuary();
        hasKept = false;
        tape = new Tape();
        sheets = new Sheet[SHEETS];
        for (int s = 0; s < SHEETS; s++) {
            sheets[s] = new Sheet();
        }
        findings = new int[FINDINGS];
        sorted = new int[OYSTERS];
    }

    // ---- beds, oysters

    public int bed(int bed, int what, int v) {
        if (!isBed(bed) || !isWithin(what, 1) || !isWithin(v, what == 0 ? MOST_NACRE : MOST_COLD)) {
            return finding(BEYOND);
        }
        int[] row = what == 0 ? live.nacre : live.cold;
        int was = row[bed];
        row[bed] = v;
        return was;
    }

    public int bedOf(int bed, int what) {
        if (!isBed(bed) || !isWithin(what, 2)) {
            return finding(BEYOND);
        }
        switch (what) {
            case 0:
                return live.nacre[bed];
            case 1:
                return live.cold[bed];
            default:
                return live.setIn(bed);
        }
    }

    public int comes(int v) {
        if (!isWithin(v, MOST_COMES)) {
            return finding(BEYOND);
        }
        int was = live.coming;
        live.coming = v;
        return was;
    }

    public int oyster(int kind, int bed) {
        if (!isKind(kind) || !isBed(bed)) {
            return finding(BEYOND);
        }
        if (live.isFull()) {
            return finding(FULL);
        }
        return live.addOyster(kind, bed);
    }

    public int of(int oyster, int what) {
        if (!isOyster(oyster) || !isWithin(what, 9)) {
            return finding(BEYOND);
        }
        switch (what) {
            case 6:
                return live.takes(oyster);
            case 7:
                return live.needs(oyster);
            case 8:
                return live.opens(oyster) ? 1 : 0;
            case 9:
                return live.worthOf(oyster);
            default:
                return live.rowOf(what)[oyster];
        }
    }

    public int change(int oyster, int what, int v) {
        if (!isOyster(oyster) || !isWithin(what, WHAT_SHOWN) || !isWithin(v, MOST_OF_WHAT[what])) {
            return finding(BEYOND);
        }
        int[] row = live.rowOf(what);
        int was = row[oyster];
        row[oyster] = v;
        return was;
    }

    public int open(int oyster) {
        if (!isOyster(oyster)) {
            return finding(BEYOND);
        }
        int worth = live.worthOf(oyster);
        live.clearOyster(oyster);
        return worth;
    }

    // ---- years

    public int go(int n) {
        if (n < 1 || n > 60) {
            return finding(BEYOND);
        }
        if (live.year + n > MOST_YEAR) {
            return finding(STATE);
        }
        live.passYears(n);
        return live.sumOf(live.layers);
    }

    public int now(int what) {
        switch (what) {
            case 0:
                return live.year;
            case 1:
                return live.sumOf(live.layers);
            case 2:
                return live.toldSet();
            case 3:
                return live.hiddenSet();
            case 4:
                return live.nacreTogether();
            case 5:
                return live.worthTogether();
            case 6:
                return live.sumOf(live.shown);
            default:
                return finding(BEYOND);
        }
    }

    // ---- what will be (nothing changes)

    public int ahead(int oyster, int what, int n) {
        boolean isTold = what == WHAT_WEIGHT || what == WHAT_LAYERS || what == WHAT_SHOWN;
        if (!isOyster(oyster) || !isTold || !isWithin(n, 100)) {
            return finding(BEYOND);
        }
        trial.copyFrom(live);
        trial.passYears(n);
        return trial.rowOf(what)[oyster];
    }

    public int worth(int oyster, int n) {
        if (!isOyster(oyster) || !isWithin(n, 100)) {
            return finding(BEYOND);
        }
        trial.copyFrom(live);
        trial.passYears(n);
        return trial.worthOf(oyster);
    }

    public int hidden(int oyster) {
        if (!isOyster(oyster)) {
            return finding(BEYOND);
        }
        trial.copyFrom(live);
        for (int n = 0; n <= 200; n++) {
            if (trial.isHidden(oyster)) {
                return n;
            }
            trial.passYear();
        }
        return finding(NONE);
    }

    public int told(int oyster) {
        if (!isOyster(oyster)) {
            return finding(BEYOND);
        }
        trial.copyFrom(live);
        for (int n = 0; n <= 200; n++) {
            if (trial.isTold(oyster)) {
                return n;
            }
            trial.passYear();
        }
        return finding(NONE);
    }

    public int dive(int oyster) {
        if (!isOyster(oyster)) {
            return finding(BEYOND);
        }
        trial.copyFrom(live);
        int best = 0;
        int most = trial.worthOf(oyster);
        for (int n = 1; n <= 60; n++) {
            trial.passYear();
            int worth = trial.worthOf(oyster);
            if (worth > most) {
                most = worth;
                best = n;
            }
        }
        return best;
    }

    // ---- where, as what

    public int sow(int oyster, int n) {
        if (!isOyster(oyster) || !isWithin(n, 40)) {
            return finding(BEYOND);
        }
        int best = 0;
        int most = -1;
        for (int b = 0; b < BEDS; b++) {
            trial.copyFrom(live);
            trial.home[oyster] = b;
            trial.passYears(n);
            if (trial.layers[oyster] > most) {
                most = trial.layers[oyster];
                best = b;
            }
        }
        return best;
    }

    public int kindFor(int oyster, int n) {
        if (!isOyster(oyster) || !isWithin(n, 40)) {
            return finding(BEYOND);
        }
        int best = 0;
        int most = -1;
        for (int k = 0; k < KINDS; k++) {
            trial.copyFrom(live);
            trial.kind[oyster] = k;
            trial.passYears(n);
            int worth = trial.worthOf(oyster);
            if (worth > most) {
                most = worth;
                best = k;
            }
        }
        return best;
    }

    public int weightFor(int oyster, int n) {
        if (!isOyster(oyster) || !isWithin(n, 40)) {
            return finding(BEYOND);
        }
        for (int w = MOST_WEIGHT; w >= 1; w--) {
            trial.copyFrom(live);
            trial.weight[oyster] = w;
            trial.passYears(n);
            if (trial.isHidden(oyster)) {
                return w;
            }
        }
        return finding(NONE);
    }

    public int comesFor(int oyster, int n) {
        if (!isOyster(oyster) || !isWithin(n, 40)) {
            return finding(BEYOND);
        }
        for (int c = 0; c <= MOST_COMES; c++) {
            trial.copyFrom(live);
            trial.coming = c;
            trial.passYears(n);
            if (trial.isHidden(oyster)) {
                return c;
            }
        }
        return finding(NONE);
    }

    public int coldFor(int oyster, int n) {
        if (!isOyster(oyster) || !isWithin(n, 40)) {
            return finding(BEYOND);
        }
        for (int c = 0; c <= MOST_COLD; c++) {
            trial.copyFrom(live);
            trial.cold[trial.home[oyster]] = c;
            trial.passYears(n);
            if (trial.shown[oyster] == live.shown[oyster]) {
                return c;
            }
        }
        return finding(NONE);
    }

    // All sets are tried: one taken up may let another stay hidden, and so take longer.
    public int room(int oyster, int v, int n) {
        if (!isOyster(oyster) || !isWithin(v, MOST_LAYERS) || !isWithin(n, 20)) {
            return finding(BEYOND);
        }
        int best = 0;
        int fewest = OYSTERS + 1;
        int sets = 1 << live.oysters;
        for (int set = 0; set < sets; set++) {
            boolean hasItself = (set & (1 << oyster)) != 0;
            if (!hasItself && Integer.bitCount(set) < fewest && growsWithout(set, oyster, v, n)) {
                fewest = Integer.bitCount(set);
                best = set;
            }
        }
        return fewest > OYSTERS ? finding(NONE) : best;
    }

    private boolean growsWithout(int set, int oyster, int v, int n) {
        trial.copyFrom(live);
        trial.takenUp = set;
        trial.passYears(n);
        return trial.layers[oyster] >= v;
    }

    // ---- strings

    public int alike(int oyster, int v) {
        if (!isOyster(oyster) || !isWithin(v, MOST_LAYERS)) {
            return finding(BEYOND);
        }
        int set = 0;
        for (int i = 0; i < live.oysters; i++) {
            if (Math.abs(live.layers[i] - live.layers[oyster]) <= v) {
                set |= 1 << i;
            }
        }
        return set;
    }

    // By layers in order: a row can pass no gap above v, and within gaps of v the order itself is a row.
    public int string(int v) {
        if (!isWithin(v, MOST_LAYERS)) {
            return finding(BEYOND);
        }
        sortLayers();
        int longest = 0;
        int length = 0;
        for (int i = 0; i < live.oysters; i++) {
            boolean follows = i > 0 && sorted[i] - sorted[i - 1] <= v;
            length = follows ? length + 1 : 1;
            longest = Math.max(longest, length);
        }
        return longest;
    }

    // By layers in order: whoever can be paired at all loses nothing by taking its neighbour.
    public int pairs(int v) {
        if (!isWithin(v, MOST_LAYERS)) {
            return finding(BEYOND);
        }
        sortLayers();
        int pairs = 0;
        int i = 1;
        while (i < live.oysters) {
            boolean isPair = sorted[i] - sorted[i - 1] <= v;
            if (isPair) {
                pairs++;
            }
            i += isPair ? 2 : 1;
        }
        return pairs;
    }

    public int match() {
        sortLayers();
        int widest = 0;
        for (int i = 1; i < live.oysters; i++) {
            widest = Math.max(widest, sorted[i] - sorted[i - 1]);
        }
        return widest;
    }

    private void sortLayers() {
        for (int i = 0; i < live.oysters; i++) {
            int layers = live.layers[i];
            int place = i;
            while (place > 0 && sorted[place - 1] > layers) {
                sorted[place] = sorted[place - 1];
                place--;
            }
            sorted[place] = layers;
        }
    }

    // ---- told layers

    public int fits(int s, int oyster) {
        int fault = faultOfTelling(s, oyster);
        if (fault >= 0) {
            return finding(fault);
        }
        int weights = 0;
        for (int w = 1; w <= MOST_WEIGHT; w++) {
            if (fitsWeight(s, oyster, w)) {
                weights++;
            }
        }
        return weights;
    }

    public int weighed(int s, int oyster) {
        int fault = faultOfTelling(s, oyster);
        if (fault >= 0) {
            return finding(fault);
        }
        for (int w = 1; w <= MOST_WEIGHT; w++) {
            if (fitsWeight(s, oyster, w)) {
                return w;
            }
        }
        return finding(NONE);
    }

    public int kinds(int s, int oyster) {
        int fault = faultOfTelling(s, oyster);
        if (fault >= 0) {
            return finding(fault);
        }
        int set = 0;
        for (int k = 0; k < KINDS; k++) {
            trial.copyFrom(live);
            trial.kind[oyster] = k;
            if (trialGrowsAs(sheets[s], oyster)) {
                set |= 1 << k;
            }
        }
        return set;
    }

    private int faultOfTelling(int s, int oyster) {
        if (!isSheet(s)) {
            return BEYOND;
        }
        if (sheets[s].isMissing()) {
            return MISSING;
        }
        return isOyster(oyster) ? -1 : BEYOND;
    }

    private boolean fitsWeight(int s, int oyster, int w) {
        trial.copyFrom(live);
        trial.weight[oyster] = w;
        return trialGrowsAs(sheets[s], oyster);
    }

    private boolean trialGrowsAs(Sheet sheet, int oyster) {
        for (int i = 0; i < sheet.size; i++) {
            if (i > 0) {
                trial.passYear();
            }
            int number = sheet.numbers[i];
            if (number != ANY && number != trial.layers[oyster]) {
                return false;
            }
        }
        return true;
    }

    // ---- storms

    public int storms(int n) {
        if (n < 1 || n > 20) {
            return finding(BEYOND);
        }
        if (live.year + n > MOST_YEAR) {
            return finding(STATE);
        }
        for (int i = 0; i < n; i++) {
            int oyster = live.draw() % OYSTERS;
            int bed = live.draw() % BEDS;
            if (isOyster(oyster)) {
                live.home[oyster] = bed;
            }
            live.passYear();
        }
        return live.sumOf(live.layers);
    }

    // The powers of a fraction in lowest terms are in lowest terms, too.
    public long odds(int n, int what) {
        if (!isWithin(n, 20) || !isWithin(what, 1)) {
            return finding(BEYOND);
        }
        int above = live.oysters - Integer.bitCount(live.hiddenSet());
        int below = OYSTERS;
        while (below > 1 && above % 2 == 0) {
            above /= 2;
            below /= 2;
        }
        long factor = what == 0 ? above : below;
        long power = 1;
        for (int i = 0; i < n; i++) {
            power *= factor;
        }
        return power;
    }

    public int seed(int v) {
        int was = live.z;
        live.z = v;
        return was;
    }

    // ---- texts

    public int feed(int bytes, int n) {
        if (n < 1 || n > 4) {
            return finding(BEYOND);
        }
        if (tape.size + n > TAPE_BYTES) {
            return finding(FULL);
        }
        for (int k = n - 1; k >= 0; k--) {
            tape.addByte((bytes >>> (8 * k)) & 255);
        }
        return tape.size;
    }

    public int wipe() {
        int had = tape.size;
        tape.size = 0;
        return had;
    }

    // It is read into the trial, so that a fault leaves the estuary as it was.
    public int text() {
        trial.copyFrom(live);
        int answer = tape.readInto(trial);
        if (answer >= 0) {
            live.copyFrom(trial);
        }
        tape.size = 0;
        return answer;
    }

    // ---- spots, sheets

    public int hold(int spot, int oyster) {
        if (!isWithin(spot, SPOTS - 1) || (oyster != NOTHING && !isOyster(oyster))) {
            return finding(BEYOND);
        }
        live.spots[spot] = oyster;
        return 1;
    }

    public int as(int spot, int kind) {
        if (!isWithin(spot, SPOTS - 1) || !isKind(kind)) {
            return finding(BEYOND);
        }
        int held = live.spots[spot];
        if (!isOyster(held)) {
            return finding(MISSING);
        }
        return isOfKind(live.kind[held], kind) ? held : finding(KIND);
    }

    public int sheet(int s, int bits, int n) {
        boolean isBits = bits == 0 || bits == 8 || bits == 16 || bits == 32;
        if (!isSheet(s) || !isBits) {
            return finding(BEYOND);
        }
        if (n < 0) {
            return finding(SIZE);
        }
        if (n > SHEET_NUMBERS) {
            return finding(BEYOND);
        }
        sheets[s].become(bits, n);
        return sheets[s].size;
    }

    public int write(int s, int i, int v) {
        if (!isSheet(s)) {
            return finding(BEYOND);
        }
        if (sheets[s].isMissing()) {
            return finding(MISSING);
        }
        if (!isWithin(i, sheets[s].size - 1)) {
            return finding(BEYOND);
        }
        sheets[s].put(i, v);
        return 1;
    }

    public int copy(int s, int from, int t, int to, int n) {
        if (!isSheet(s) || !isSheet(t)) {
            return finding(BEYOND);
        }
        Sheet source = sheets[s];
        Sheet target = sheets[t];
        if (source.isMissing() || target.isMissing()) {
            return finding(MISSING);
        }
        if (source.bits != target.bits) {
            return finding(KIND);
        }
        if (!source.hasNumbers(from, n) || !target.hasNumbers(to, n)) {
            return finding(BEYOND);
        }
        System.arraycopy(source.numbers, from, target.numbers, to, n);
        return n;
    }

    public int load(int s) {
        if (!isSheet(s)) {
            return finding(BEYOND);
        }
        if (sheets[s].isMissing()) {
            return finding(MISSING);
        }
        int most = Math.min(BEDS, sheets[s].size);
        int came = 0;
        while (came < most && isWithin(sheets[s].numbers[came], MOST_NACRE)) {
            live.nacre[came] = sheets[s].numbers[came];
            came++;
        }
        return came;
    }

    public int judge(int s) {
        if (!isSheet(s)) {
            return finding(BEYOND);
        }
        if (sheets[s].isMissing()) {
            return finding(MISSING);
        }
        for (int i = 0; i < sheets[s].size; i++) {
            if (!isOyster(i) || sheets[s].numbers[i] != live.layers[i]) {
                return 1 + i;
            }
        }
        return 0;
    }

    // ---- images

    public int image() {
        kept.copyFrom(live);
        hasKept = true;
        return 1;
    }

    public int undo() {
        if (!hasKept) {
            return finding(NONE);
        }
        live.copyFrom(kept);
        return live.year;
    }

    public int tear() {
        int was = hasKept ? 1 : 0;
        hasKept = false;
        return was;
    }

    public int count(int what) {
        switch (what) {
            case 0:
                return live.year;
            case 1:
                return live.oysters;
            case 2:
                return Integer.bitCount(live.toldSet());
            case 3:
                return live.sumOf(live.layers);
            case 4:
                return live.sumOf(live.shown);
            case 5:
                return tape.size;
            case 6:
                return live.z;
            case 7:
                return live.spotsHolding();
            default:
                return finding(BEYOND);
        }
    }

    public int status(int which) {
        if (which < -1 || which >= FINDINGS) {
            return finding(BEYOND);
        }
        if (which >= 0) {
            return findings[which];
        }
        int all = 0;
        for (int i = 0; i < FINDINGS; i++) {
            all += findings[i];
        }
        return all;
    }

    // ---- what the acts share

    private int finding(int which) {
        findings[which]++;
        return LOW - which;
    }

    private boolean isOyster(int oyster) {
        return isWithin(oyster, live.oysters - 1);
    }

    private static boolean isBed(int bed) {
        return isWithin(bed, BEDS - 1);
    }

    private static boolean isKind(int kind) {
        return isWithin(kind, KINDS - 1);
    }

    private static boolean isSheet(int s) {
        return isWithin(s, SHEETS - 1);
    }

    private static boolean isWithin(int v, int most) {
        return v >= 0 && v <= most;
    }

    private static boolean isOfKind(int kind, int wanted) {
        int above = kind;
        for (int step = 0; step < KINDS && isKind(above); step++) {
            if (above == wanted) {
                return true;
            }
            above = KIND_ABOVE[above];
        }
        return false;
    }

    /** All that an image keeps. One is lived in, one is kept, and one is for trying what would be. */
    private static final class Estuary {
        final int[] nacre = new int[BEDS];
        final int[] cold = new int[BEDS];
        final int[] kind = new int[OYSTERS];
        final int[] home = new int[OYSTERS];
        final int[] weight = new int[OYSTERS];
        final int[] layers = new int[OYSTERS];
        final int[] age = new int[OYSTERS];
        final int[] shown = new int[OYSTERS];
        final int[] spots = new int[SPOTS];
        int oysters;
        int coming;
        int year;
        int z;
        // A set of oysters that take no nacre; it has members in a trial only.
        int takenUp;

        Estuary() {
            for (int b = 0; b < BEDS; b++) {
                nacre[b] = 100;
                cold[b] = 3;
            }
            for (int spot = 0; spot < SPOTS; spot++) {
                spots[spot] = NOTHING;
            }
            oysters = 0;
            coming = 20;
            year = 0;
            z = 1;
            takenUp = 0;
        }

        void copyFrom(Estuary other) {
            System.arraycopy(other.nacre, 0, nacre, 0, BEDS);
            System.arraycopy(other.cold, 0, cold, 0, BEDS);
            System.arraycopy(other.kind, 0, kind, 0, OYSTERS);
            System.arraycopy(other.home, 0, home, 0, OYSTERS);
            System.arraycopy(other.weight, 0, weight, 0, OYSTERS);
            System.arraycopy(other.layers, 0, layers, 0, OYSTERS);
            System.arraycopy(other.age, 0, age, 0, OYSTERS);
            System.arraycopy(other.shown, 0, shown, 0, OYSTERS);
            System.arraycopy(other.spots, 0, spots, 0, SPOTS);
            oysters = other.oysters;
            coming = other.coming;
            year = other.year;
            z = other.z;
            takenUp = other.takenUp;
        }

        boolean isFull() {
            return oysters >= OYSTERS;
        }

        int addOyster(int newKind, int bed) {
            if (isFull()) {
                return NOTHING;
            }
            int number = oysters;
            oysters++;
            clearOyster(number);
            kind[number] = newKind;
            home[number] = bed;
            weight[number] = 10;
            return number;
        }

        void clearOyster(int i) {
            weight[i] = 0;
            layers[i] = 0;
            age[i] = 0;
            shown[i] = 0;
        }

        int[] rowOf(int what) {
            switch (what) {
                case WHAT_KIND:
                    return kind;
                case WHAT_BED:
                    return home;
                case WHAT_WEIGHT:
                    return weight;
                case WHAT_LAYERS:
                    return layers;
                case WHAT_AGE:
                    return age;
                default:
                    return shown;
            }
        }

        int takes(int i) {
            int plain = 6;
            int black = plain + weight[i] / 10;
            int poor = plain / 2 - 1;
            switch (kind[i]) {
                case BLACK:
                    return black;
                case MINISTER:
                    return 2 * black;
                case SEED:
                    return plain / 2;
                case POOR:
                    return poor;
                case MOON:
                    return age[i] % 2 == 0 ? poor : 0;
                case DEAR:
                    return plain + Math.min(9, age[i] / 10);
                default:
                    return plain;
            }
        }

        int needs(int i) {
            int plain = weight[i];
            switch (kind[i]) {
                case BLACK:
                    return 2 * plain;
                case MINISTER:
                    return 2 * plain + 10;
                case SEED:
                    return plain / 2;
                case POOR:
                case MOON:
                    return Math.max(0, plain / 2 - cold[home[i]]);
                case DEAR:
                    return Math.max(0, plain - 5);
                default:
                    return plain;
            }
        }

        boolean opens(int i) {
            boolean plain = cold[home[i]] < 3;
            switch (kind[i]) {
                case BLACK:
                    return plain && weight[i] <= 50;
                case MINISTER:
                    return false;
                case POOR:
                    return true;
                case MOON:
                    return year % 3 == 2;
                default:
                    return plain;
            }
        }

        int worthOf(int i) {
            if (isTold(i)) {
                return 0;
            }
            int plain = layers[i];
            int black = plain + weight[i];
            switch (kind[i]) {
                case BLACK:
                    return black;
                case MINISTER:
                    return Math.max(0, black - 10 * shown[i]);
                case SEED:
                case POOR:
                case MOON:
                    return plain / 2;
                case DEAR:
                    return 3 * plain;
                default:
                    return plain;
            }
        }

        boolean isTold(int i) {
            return weight[i] == 0;
        }

        boolean isHidden(int i) {
            return !isTold(i) && layers[i] >= needs(i);
        }

        void passYears(int n) {
            for (int i = 0; i < n; i++) {
                passYear();
            }
        }

        void passYear() {
            for (int i = 0; i < oysters; i++) {
                if (!isTold(i) && (takenUp & (1 << i)) == 0) {
                    growLayers(i);
                }
            }
            for (int i = 0; i < oysters; i++) {
                if (!isTold(i) && !isHidden(i) && opens(i)) {
                    shown[i] = Math.min(MOST_SHOWN, shown[i] + 1);
                    weight[i] = Math.max(0, weight[i] - 7);
                }
            }
            for (int i = 0; i < oysters; i++) {
                age[i] = Math.min(MOST_AGE, age[i] + 1);
            }
            for (int b = 0; b < BEDS; b++) {
                nacre[b] = Math.min(MOST_NACRE, nacre[b] + coming);
            }
            year = Math.min(MOST_YEAR, year + 1);
        }

        void growLayers(int i) {
            int bed = home[i];
            int taken = Math.min(takes(i), nacre[bed]);
            nacre[bed] -= taken;
            layers[i] = Math.min(MOST_LAYERS, layers[i] + taken);
        }

        int draw() {
            z = z * 1103515245 + 12345;
            return z >>> 8;
        }

        int setIn(int bed) {
            int set = 0;
            for (int i = 0; i < oysters; i++) {
                if (home[i] == bed) {
                    set |= 1 << i;
                }
            }
            return set;
        }

        int toldSet() {
            int set = 0;
            for (int i = 0; i < oysters; i++) {
                if (isTold(i)) {
                    set |= 1 << i;
                }
            }
            return set;
        }

        int hiddenSet() {
            int set = 0;
            for (int i = 0; i < oysters; i++) {
                if (isHidden(i)) {
                    set |= 1 << i;
                }
            }
            return set;
        }

        int sumOf(int[] row) {
            int sum = 0;
            for (int i = 0; i < oysters; i++) {
                sum += row[i];
            }
            return sum;
        }

        int worthTogether() {
            int sum = 0;
            for (int i = 0; i < oysters; i++) {
                sum += worthOf(i);
            }
            return sum;
        }

        int nacreTogether() {
            int sum = 0;
            for (int b = 0; b < BEDS; b++) {
                sum += nacre[b];
            }
            return sum;
        }

        int spotsHolding() {
            int holding = 0;
            for (int spot = 0; spot < SPOTS; spot++) {
                if (spots[spot] != NOTHING) {
                    holding++;
                }
            }
            return holding;
        }
    }

    /** A row of numbers of one width; of none it is missing. */
    private static final class Sheet {
        final int[] numbers = new int[SHEET_NUMBERS];
        int bits;
        int size;

        Sheet() {
            bits = 0;
            size = 0;
        }

        boolean isMissing() {
            return bits == 0;
        }

        void become(int newBits, int newSize) {
            bits = newBits;
            size = newBits == 0 ? 0 : newSize;
            for (int i = 0; i < SHEET_NUMBERS; i++) {
                numbers[i] = 0;
            }
        }

        void put(int i, int v) {
            switch (bits) {
                case 8:
                    numbers[i] = (byte) v;
                    break;
                case 16:
                    numbers[i] = (short) v;
                    break;
                default:
                    numbers[i] = v;
                    break;
            }
        }

        // The bounds are compared by what is left, since from + n could pass the greatest int.
        boolean hasNumbers(int from, int n) {
            return from >= 0 && n >= 0 && from <= size && n <= size - from;
        }
    }

    /** The tape's bytes, their tokens, and where reading them as a text stands: always at one token. */
    private static final class Tape {
        // The sorts of tokens; the words of the kinds are told by the numbers of the kinds.
        private static final int BED = 7;
        private static final int COMES = 8;
        private static final int IN = 9;
        private static final int WEIGHS = 10;
        private static final int LAYERS = 11;
        private static final int NACRE = 12;
        private static final int COLD = 13;
        private static final int WORDS = 14;
        private static final int NUMBER = 14;
        private static final int SIGN = 15;
        private static final int END = 16;
        private static final int NO_TOKEN = 17;

        final int[] bytes = new int[TAPE_BYTES];
        // No token is shorter than a byte, and the end is one, too.
        final int[] sorts = new int[TAPE_BYTES + 1];
        final int[] starts = new int[TAPE_BYTES + 1];
        final int[] numbers = new int[TAPE_BYTES + 1];
        int size;
        int tokens;
        int at;
        int value;

        Tape() {
            size = 0;
            tokens = 0;
            at = 0;
            value = 0;
        }

        void addByte(int b) {
            if (size < TAPE_BYTES) {
                bytes[size] = b;
                size++;
            }
        }

        /** How many items there were; or -1 less the fault, with the estuary half changed. */
        int readInto(Estuary estuary) {
            splitIntoTokens();
            int items = 0;
            boolean goesOn = true;
            while (goesOn && items < TAPE_BYTES) {
                if (!readItem(estuary)) {
                    return -1 - starts[at];
                }
                items++;
                goesOn = sorts[at] == SIGN;
                passIf(SIGN);
            }
            return sorts[at] == END ? items : -1 - starts[at];
        }

        // Whatever is answered with false here stands at the token that can't stand there.
        boolean readItem(Estuary estuary) {
            if (passIf(BED)) {
                return readBed(estuary);
            }
            if (passIf(COMES)) {
                return readComes(estuary);
            }
            int kind = sorts[at];
            return isKind(kind) && !estuary.isFull() && passIf(kind) && readOyster(estuary, kind);
        }

        boolean readOyster(Estuary estuary, int kind) {
            if (!readAfter(IN, BEDS - 1, 0)) {
                return false;
            }
            int oyster = estuary.addOyster(kind, value);
            if (oyster < 0 || !readAfter(WEIGHS, MOST_WEIGHT, estuary.weight[oyster])) {
                return false;
            }
            estuary.weight[oyster] = value;
            if (!readAfter(LAYERS, MOST_LAYERS, estuary.layers[oyster])) {
                return false;
            }
            estuary.layers[oyster] = value;
            return true;
        }

        boolean readBed(Estuary estuary) {
            if (!readNumber(BEDS - 1)) {
                return false;
            }
            int bed = value;
            if (!readAfter(NACRE, MOST_NACRE, estuary.nacre[bed])) {
                return false;
            }
            estuary.nacre[bed] = value;
            if (!readAfter(COLD, MOST_COLD, estuary.cold[bed])) {
                return false;
            }
            estuary.cold[bed] = value;
            return true;
        }

        boolean readComes(Estuary estuary) {
            if (!readNumber(MOST_COMES)) {
                return false;
            }
            estuary.coming = value;
            return true;
        }

        boolean readAfter(int word, int most, int without) {
            value = without;
            return !passIf(word) || readNumber(most);
        }

        boolean readNumber(int most) {
            value = numbers[at];
            return value <= most && passIf(NUMBER);
        }

        // The end is never passed, so there is always a token to stand at.
        boolean passIf(int sort) {
            if (at >= tokens || sorts[at] != sort) {
                return false;
            }
            at++;
            return true;
        }

        void splitIntoTokens() {
            at = 0;
            tokens = 0;
            for (int place = 0; place < size; place++) {
                if (bytes[place] != ' ' && !isTogether(place)) {
                    addToken(place, endOfToken(place));
                }
            }
            starts[tokens] = size;
            sorts[tokens] = END;
            numbers[tokens] = 0;
        }

        void addToken(int start, int end) {
            starts[tokens] = start;
            sorts[tokens] = sortOf(start, end);
            numbers[tokens] = numberOf(start, end);
            tokens++;
        }

        int endOfToken(int start) {
            int end = start + 1;
            while (end < size && isTogether(end)) {
                end++;
            }
            return end;
        }

        /** Whether the byte at a place belongs to the token of the one ahead of it. */
        boolean isTogether(int place) {
            if (place < 1 || place >= size) {
                return false;
            }
            int before = bytes[place - 1];
            int here = bytes[place];
            return (isLetter(before) && isLetter(here)) || (isDigit(before) && isDigit(here));
        }

        int sortOf(int start, int end) {
            if (isDigit(bytes[start])) {
                return NUMBER;
            }
            if (bytes[start] == ';') {
                return SIGN;
            }
            for (int word = 0; word < WORDS; word++) {
                if (isText(textOf(word), start, end)) {
                    return word;
                }
            }
            return NO_TOKEN;
        }

        // A number of many digits stays at one that is too great anywhere.
        int numberOf(int start, int end) {
            int number = 0;
            for (int i = start; i < end && isDigit(bytes[i]); i++) {
                number = Math.min(1000, number * 10 + bytes[i] - '0');
            }
            return number;
        }

        boolean isText(String text, int start, int end) {
            if (end - start != text.length()) {
                return false;
            }
            for (int i = 0; i < text.length(); i++) {
                if (bytes[start + i] != text.charAt(i)) {
                    return false;
                }
            }
            return true;
        }

        static String textOf(int word) {
            switch (word) {
                case OYSTER:
                    return "oyster";
                case BLACK:
                    return "black";
                case SEED:
                    return "seed";
                case POOR:
                    return "poor";
                case MOON:
                    return "moon";
                case DEAR:
                    return "dear";
                case MINISTER:
                    return "minister";
                case BED:
                    return "bed";
                case COMES:
                    return "comes";
                case IN:
                    return "in";
                case WEIGHS:
                    return "weighs";
                case LAYERS:
                    return "layers";
                case NACRE:
                    return "nacre";
                default:
                    return "cold";
            }
        }

        static boolean isLetter(int b) {
            return b >= 'a' && b <= 'z';
        }

        static boolean isDigit(int b) {
            return b >= '0' && b <= '9';
        }
    }
}
