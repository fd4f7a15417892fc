/** The edges of texts: those of the document's Terms 3, and of promises 32 to 34. */
public final class EdgeTextsTest {
    private static final int BED = 1;
    private static final int WEIGHT = 2;
    private static final int LAYERS = 3;
    private static final String[] KINDS = {"oyster", "black", "seed", "poor", "moon", "dear", "minister"};

    /** A new object that has read a text of so many items. */
    private static OysterSecrets read(String text, int items) {
        OysterSecrets x = new OysterSecrets();
        Due.feed(x, text);
        Due.due("34: \"" + text + "\"", x.text(), items);
        Due.due("34: no finding in \"" + text + "\"", x.status(-1), 0);
        Due.due("34: the tape is empty behind \"" + text + "\"", x.count(5), 0);
        return x;
    }

    /** A text with a fault leaves all as it is, but THE TAPE, and is no finding: by a twin with an empty tape. */
    private static void fault(String text, int place) {
        fault(Edge::busy, text, place);
    }

    private static void fault(Edge.Maker maker, String text, int place) {
        OysterSecrets x = maker.make();
        OysterSecrets twin = maker.make();
        x.wipe();
        twin.wipe();
        Due.feed(x, text);
        Due.due("34: \"" + text + "\"", x.text(), -1 - place);
        Due.due("34: no finding in \"" + text + "\"", x.status(-1), twin.status(-1));
        Trace.same("34: \"" + text + "\"", x, twin);
    }

    /** "THE TAPE (bytes, at most 120)", and FULL: it takes a 120th byte, and no 121st */
    private static void tapeOf120() {
        for (int n = 1; n <= 4; n++) {
            int bytes = n;
            Edge.Maker just = () -> tapeWith(120 - bytes);
            Edge.Maker less = () -> tapeWith(121 - bytes);
            Due.due("32: " + n + " up to 120", just.make().feed(-1, n), 120);
            Edge.refused("32: " + n + " up to 121", less, x -> x.feed(-1, bytes), Due.FULL);
            Edge.refused("32: " + n + " beyond 120", () -> tapeWith(120), x -> x.feed(-1, bytes), Due.FULL);
        }
        OysterSecrets x = tapeWith(118);
        x.feed(0, 3);
        Due.due("32: none of three came", x.count(5), 118);
        Due.due("32: two come", x.feed(0, 2), 120);
        x.wipe();
        Due.due("32: there is room again", x.feed(0, 4), 4);
    }

    private static OysterSecrets tapeWith(int bytes) {
        OysterSecrets x = new OysterSecrets();
        Due.feed(x, " ".repeat(bytes));
        return x;
    }

    /** Promise 32: "(n 1 to 4)" */
    private static void oneToFour() {
        Edge.within("32: n", Edge::busy, (x, n) -> x.feed(0x62626262, n), 1, 4);
        Edge.within("32: n, of an empty tape", Edge::fresh, (x, n) -> x.feed(-1, n), 1, 4);
    }

    /** Promise 32: "the n lowest bytes of a number .., the highest of these first" */
    private static void lowestBytes() {
        String text = "comes 17";
        for (int n = 1; n <= 4; n++) {
            OysterSecrets x = new OysterSecrets();
            for (int i = 0; i < 8; i += n) {
                int bytes = 0;
                for (int k = i; k < i + n; k++) {
                    bytes = bytes << 8 | (k < 8 ? text.charAt(k) : ' ');
                }
                int above = n == 4 ? 0 : 0x7f << 8 * n;
                x.feed(bytes | above, n);
            }
            Due.due("32: by " + n + " bytes", x.text(), 1);
            Due.due("32: what they told", x.comes(0), 17);
        }
        OysterSecrets x = new OysterSecrets();
        Due.feed(x, "comes 1");
        x.feed(Integer.MIN_VALUE, 4);
        Due.due("32: the lowest int is 128, 0, 0, 0", x.text(), -1 - 7);
        x.feed(-1, 1);
        Due.due("32: -1 is 255", x.text(), -1);
    }

    /** Promise 33: of an empty tape, of one byte, of a full one */
    private static void wipes() {
        OysterSecrets x = new OysterSecrets();
        Due.due("33: of an empty one", x.wipe(), 0);
        x.feed(0, 1);
        Due.due("33: of one byte", x.wipe(), 1);
        Due.due("33: of none again", x.wipe(), 0);
        Due.feed(x, ";".repeat(120));
        Due.due("33: of a full one", x.wipe(), 120);
        Due.due("33: it is empty", x.count(5), 0);
        Due.due("33: nothing is left of it", x.text(), -1);
    }

    /** "TOKENS, each as long as can be": a WORD ends where no letter stands, a NUMBER where no digit does */
    private static void longTokens() {
        OysterSecrets x = read("oyster in3weighs40layers7;bed2nacre8cold9;comes6", 3);
        Due.due("34: its bed", x.of(0, BED), 3);
        Due.due("34: its weight", x.of(0, WEIGHT), 40);
        Due.due("34: its layers", x.of(0, LAYERS), 7);
        Due.due("34: the nacre", x.bedOf(2, 0), 8);
        Due.due("34: the cold", x.bedOf(2, 1), 9);
        Due.due("34: what comes", x.comes(0), 6);
        fault("oysterin 3", 0);
        fault("oyster in 3weighslayers 1", 11);
        fault("bednacre 3", 0);
        fault("bed 1 nacrecold 3", 6);
        fault("bed 1 2", 6);
        fault("bed 12", 4);
        fault("comes 5 0", 8);
        fault("comes 500", 6);
    }

    /** "WORDS (letters a to z)": the signs just outside, and the great letters, begin no TOKEN */
    private static void letters() {
        fault("oystera", 0);
        fault("oysterz", 0);
        fault("oyster`", 6);
        fault("oyster{", 6);
        fault("`oyster", 0);
        fault("{oyster", 0);
        fault("aoyster", 0);
        fault("zoyster", 0);
        fault("oysteR", 0);
        fault("oysterR", 6);
        fault("Oyster", 0);
        fault("bed 0 Nacre 1", 6);
        fault("bed 0 @", 6);
        fault("bed 0 [", 6);
    }

    /** "NUMBERS (digits": 0 and 9 are, the signs just outside aren't; nothing stands ahead of one */
    private static void digits() {
        read("bed 0;comes 09;comes 90;comes 99", 4);
        fault("bed /", 4);
        fault("bed :", 4);
        fault("bed 0/", 5);
        fault("bed 0:", 5);
        fault("comes -1", 6);
        fault("comes +1", 6);
        fault("comes 1.5", 7);
        fault("comes 1e1", 7);
    }

    /** "NUMBERS (.., 999 at most)": by worth, not by how many digits */
    private static void numbersUpTo999() {
        Due.due("34: 999", read("oyster layers 999", 1).of(0, LAYERS), 999);
        Due.due("34: 0999", read("oyster layers 0999", 1).of(0, LAYERS), 999);
        Due.due("34: 000", read("oyster layers 000", 1).of(0, LAYERS), 0);
        Due.due("34: 99 zeros", read("oyster layers " + "0".repeat(99) + "7", 1).of(0, LAYERS), 7);
        fault("oyster layers 1000", 14);
        fault("oyster layers 01000", 14);
        fault("oyster layers 4294967296", 14);
        fault("oyster layers 18446744073709551617", 14);
        fault("oyster layers " + "9".repeat(106), 14);
        fault("bed 1000", 4);
        fault("bed 4294967297", 4);
        fault("comes 1000", 6);
        fault("bed 0 cold 1000", 11);
        fault("1000", 0);
    }

    /** "SIGN ;": no other sign is one */
    private static void signs() {
        read("comes 1;comes 2", 2);
        for (char c : new char[] {',', '.', ':', '!', '(', '=', '\'', '#', '~', '_'}) {
            fault("comes 1" + c + "comes 2", 7);
        }
    }

    /** "blanks may stand between": none, many, ahead, behind; a byte of another number is no blank */
    private static void blanks() {
        read("comes1", 1);
        read("comes 1", 1);
        read("   comes    1   ;   comes 2   ", 2);
        read("comes 1;comes 2 ", 2);
        for (int b : new int[] {0, 9, 10, 11, 13, 31, 33, 127, 128, 160, 255}) {
            fault("comes" + (char) b + "1", 5);
            fault("comes 1" + (char) b, 7);
            fault((char) b + "comes 1", 0);
        }
        fault("com es 1", 0);
        fault("oy ster", 0);
        fault("comes 1 0", 8);
    }

    /** Bytes that begin no TOKEN: all 256, but letters, digits, ; and the blank. */
    private static void bytesThatBeginNone() {
        for (int b = 0; b < 256; b++) {
            boolean begins = b >= 'a' && b <= 'z' || b >= '0' && b <= '9' || b == ';' || b == ' ';
            OysterSecrets x = new OysterSecrets();
            Due.feed(x, "bed 0 ");
            x.feed(b, 1);
            int want = b == ';' ? -1 - 7 : b == ' ' ? 1 : -1 - 6;
            Due.due("34: \"bed 0 \" and a byte " + b, x.text(), want);
            Due.feed(x, "comes ");
            x.feed(b, 1);
            boolean isDigit = b >= '0' && b <= '9';
            want = isDigit ? 1 : b == ' ' ? -1 - 7 : -1 - 6;
            Due.due("34: \"comes \" and a byte " + b + (begins ? "" : " that begins none"), x.text(), want);
        }
    }

    /** "TEXT: ITEM { ; ITEM }": one at least, a sign between two and nowhere else */
    private static void itemsAndSigns() {
        read("oyster", 1);
        read("oyster;oyster", 2);
        read("oyster;oyster;oyster;oyster;oyster;oyster;oyster;oyster", 8);
        fault("", 0);
        fault(" ", 1);
        fault(";", 0);
        fault(" ;", 1);
        fault(";comes 1", 0);
        fault("comes 1;", 8);
        fault("comes 1; ", 9);
        fault("comes 1;;comes 2", 8);
        fault("comes 1 comes 2", 8);
        fault("comes ; 1", 6);
    }

    /** "ITEM: oyster, black, seed, poor, moon, dear or minister": each of its kind, as at first */
    private static void kinds() {
        for (int kind = 0; kind < 7; kind++) {
            OysterSecrets x = read(KINDS[kind], 1);
            int[] wants = {kind, 0, 10, 0, 0, 0};
            for (int what = 0; what < 6; what++) {
                Due.due("34: of(0, " + what + ") of " + KINDS[kind], x.of(0, what), wants[what]);
            }
            fault(KINDS[kind] + "s", 0);
            fault(KINDS[kind].substring(1), 0);
            fault(KINDS[kind].substring(0, KINDS[kind].length() - 1), 0);
        }
    }

    /** "perhaps in and a NUMBER (a BED; 0 without)" */
    private static void inABed() {
        Due.due("34: without", read("seed", 1).of(0, BED), 0);
        Due.due("34: in 0", read("seed in 0", 1).of(0, BED), 0);
        Due.due("34: in 5", read("seed in 5", 1).of(0, BED), 5);
        fault("seed in 6", 8);
        fault("seed in 999", 8);
        fault("seed in", 7);
        fault("seed in in 1", 8);
        fault("seed in 1 in 1", 10);
        fault("seed in 6 ;", 8);
    }

    /** "perhaps weighs and a NUMBER (0 to 99)" */
    private static void weighs() {
        Due.due("34: without", read("seed", 1).of(0, WEIGHT), 10);
        Due.due("34: weighs 0", read("seed weighs 0", 1).of(0, WEIGHT), 0);
        Due.due("34: it is told", read("seed weighs 0", 1).now(2), 1);
        Due.due("34: weighs 1", read("seed weighs 1", 1).now(2), 0);
        Due.due("34: weighs 99", read("seed weighs 99", 1).of(0, WEIGHT), 99);
        fault("seed weighs 100", 12);
        fault("seed weighs", 11);
        fault("seed weighs layers 1", 12);
        fault("seed weighs 1 weighs 1", 14);
        fault("seed weighs 1 in 1", 14);
    }

    /** "perhaps layers and a NUMBER (0 to 999)" */
    private static void layers() {
        Due.due("34: without", read("seed", 1).of(0, LAYERS), 0);
        Due.due("34: layers 0", read("seed layers 0", 1).of(0, LAYERS), 0);
        Due.due("34: layers 999", read("seed layers 999", 1).of(0, LAYERS), 999);
        fault("seed layers 1000", 12);
        fault("seed layers", 11);
        fault("seed layers 1 layers 1", 14);
        fault("seed layers 1 weighs 1", 14);
        fault("seed layers 1 in 1", 14);
        fault("seed layers 1 2", 14);
    }

    /** Each of in, weighs and layers perhaps: all eight ways, in this order. */
    private static void perhaps() {
        for (int way = 0; way < 8; way++) {
            String in = (way & 1) != 0 ? " in 4" : "";
            String weighs = (way & 2) != 0 ? " weighs 33" : "";
            String layers = (way & 4) != 0 ? " layers 44" : "";
            OysterSecrets x = read("dear" + in + weighs + layers, 1);
            Due.due("34: the bed, way " + way, x.of(0, BED), in.isEmpty() ? 0 : 4);
            Due.due("34: the weight, way " + way, x.of(0, WEIGHT), weighs.isEmpty() ? 10 : 33);
            Due.due("34: the layers, way " + way, x.of(0, LAYERS), layers.isEmpty() ? 0 : 44);
        }
    }

    /** "bed, a NUMBER (a BED), perhaps nacre and a NUMBER (0 to 999), perhaps cold and a NUMBER (0 to 9)" */
    private static void beds() {
        for (int b = 0; b < 6; b++) {
            OysterSecrets x = read("bed " + b + " nacre 999 cold 9", 1);
            Due.due("34: nacre 999", x.bedOf(b, 0), 999);
            Due.due("34: cold 9", x.bedOf(b, 1), 9);
            x = read("bed " + b + " nacre 0 cold 0", 1);
            Due.due("34: nacre 0", x.bedOf(b, 0), 0);
            Due.due("34: cold 0", x.bedOf(b, 1), 0);
            x = read("bed " + b, 1);
            Due.due("34: nothing of it", x.bedOf(b, 0), 100);
            Due.due("34: nothing of it", x.bedOf(b, 1), 3);
        }
        Due.due("34: cold alone", read("bed 3 cold 1", 1).bedOf(3, 0), 100);
        Due.due("34: nacre alone", read("bed 3 nacre 1", 1).bedOf(3, 1), 3);
        fault("bed", 3);
        fault("bed 6", 4);
        fault("bed nacre 1", 4);
        fault("bed 0 nacre", 11);
        fault("bed 0 nacre 1000", 12);
        fault("bed 0 nacre cold 1", 12);
        fault("bed 0 cold", 10);
        fault("bed 0 cold 10", 11);
        fault("bed 0 cold 1 nacre 1", 13);
        fault("bed 0 nacre 1 nacre 1", 14);
        fault("bed 0 cold 1 cold 1", 13);
        fault("bed 0 nacre 5 cold 10", 19);
        fault("bed 0 in 1", 6);
    }

    /** "comes, a NUMBER (0 to 99)" */
    private static void comes() {
        Due.due("34: comes 0", read("comes 0", 1).comes(1), 0);
        Due.due("34: comes 99", read("comes 99", 1).comes(1), 99);
        fault("comes 100", 6);
        fault("comes", 5);
        fault("comes comes 1", 6);
        fault("comes 5;comes 100", 14);
    }

    /** FAULT: "another WORD", where one may stand and where none may */
    private static void otherWords() {
        for (String word : new String[] {"clam", "in", "weighs", "layers", "nacre", "cold", "o", "beds"}) {
            fault(word, 0);
            fault("comes 5; " + word, 9);
            fault("comes " + word, 6);
            fault("comes 5 " + word, 8);
        }
        fault("oyster oyster", 7);
        fault("oyster nacre 5", 7);
        fault("bed 0 layers 5", 6);
        fault("7", 0);
    }

    /** FAULT: "the WORD of a 9th OYSTER: its own" */
    private static void ninthOyster() {
        for (String kind : KINDS) {
            fault(Edge::full, kind, 0);
            fault(Edge::full, "comes 7; " + kind + " in 9", 9);
            fault("bed 1 cold 0;" + kind + " in 1;" + kind + " weighs 100", 13 + kind.length() + 6);
        }
        fault(Edge::fresh, "moon;moon;moon;moon;moon;moon;moon;moon;moon", 40);
        fault(Edge::full, "comes 100;oyster", 6);
        OysterSecrets eight = Edge.full();
        Due.feed(eight, "bed 0 nacre 1;comes 1");
        Due.due("34: what is no oyster can be told", eight.text(), 2);
        OysterSecrets seven = Edge.busy();
        seven.wipe();
        Due.feed(seven, "moon in 2");
        Due.due("34: an 8th", seven.text(), 1);
        Due.due("34: its number", seven.of(7, BED), 2);
        read("seed;seed;seed;seed;seed;seed;seed;seed;bed 1", 9);
    }

    /** FAULT: "how many bytes there are if it ends too early", blanks among them */
    private static void endsTooEarly() {
        String[] texts = {"", "oyster in", "oyster weighs", "oyster in 1 weighs", "oyster layers", "bed", "bed 0 nacre",
            "bed 0 cold", "bed 0 nacre 1 cold", "comes", "comes 1;", "oyster;"};
        for (String text : texts) {
            fault(text, text.length());
            fault(text + " ", text.length() + 1);
            fault("  " + text + "   ", text.length() + 5);
        }
    }

    /** A tape of 120 bytes: its last byte may end a text, be a fault, or have it end too early. */
    private static void fullTapes() {
        read(" ".repeat(114) + "oyster", 1);
        read("oyster" + " ".repeat(114), 1);
        read("comes 9;".repeat(14) + "comes 42", 15);
        fault("comes 9;".repeat(15), 120);
        fault("comes 9;".repeat(14) + "comes 4#", 119);
        fault(" ".repeat(120), 120);
        fault("a".repeat(120), 0);
        fault("1".repeat(120), 0);
        fault(";".repeat(120), 0);
        fault("comes 9;".repeat(14) + "comes100", 117);
    }

    /** Promise 34: "all that it tells is so, item by item": the later of two counts, other things stay */
    private static void itemByItem() {
        OysterSecrets x = read("comes 5;comes 7;bed 1 nacre 4 cold 4;bed 1 cold 5;black in 2;bed 1 nacre 9", 6);
        Due.due("34: the later comes", x.comes(0), 7);
        Due.due("34: the later nacre", x.bedOf(1, 0), 9);
        Due.due("34: the later cold", x.bedOf(1, 1), 5);
        Due.due("34: one oyster", x.count(1), 1);
        Due.due("34: YEAR stays", x.now(0), 0);
        Due.feed(x, "oyster in 2");
        Due.due("34: another text", x.text(), 1);
        Due.due("34: comes behind it", x.bedOf(2, 2), 3);
    }

    /** Promise 34: "(nothing changes but that THE TAPE is empty; no finding)" */
    private static void emptyBehindAFault() {
        OysterSecrets x = new OysterSecrets();
        Due.feed(x, "comes 1;oyster;bed 9");
        Due.due("34: the fault", x.text(), -1 - 19);
        Due.due("34: the tape", x.count(5), 0);
        Due.due("34: an empty tape's", x.text(), -1);
        Due.due("34: no oyster", x.count(1), 0);
        Due.due("34: comes stays", x.comes(20), 20);
        Due.due("34: no findings", x.status(-1), 0);
    }

    public static void main(String[] args) {
        tapeOf120();
        oneToFour();
        lowestBytes();
        wipes();
        longTokens();
        letters();
        digits();
        numbersUpTo999();
        signs();
        blanks();
        bytesThatBeginNone();
        itemsAndSigns();
        kinds();
        inABed();
        weighs();
        layers();
        perhaps();
        beds();
        comes();
        otherWords();
        ninthOyster();
        endsTooEarly();
        fullTapes();
        itemByItem();
        emptyBehindAFault();
        Due.end();
    }
}
