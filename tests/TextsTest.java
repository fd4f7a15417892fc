/** Promises 32 to 34: texts. */
public final class TextsTest {
    private static void feed() {
        OysterSecrets x = new OysterSecrets();
        Due.due("32: feed of 4", x.feed(0x62656420, 4), 4);
        Due.due("32: feed of 1, its lowest", x.feed(0x62656433, 1), 5);
        Due.due("32: feed of 2, its lowest", x.feed(0x62652063, 2), 7);
        Due.due("32: feed of 3", x.feed(0x6f6c64, 3), 10);
        Due.due("32: feed of 0", x.feed(65, 0), Due.BEYOND);
        Due.due("32: feed of 5", x.feed(65, 5), Due.BEYOND);
        Due.due("32: feed of -1", x.feed(65, -1), Due.BEYOND);
        Due.due("32: count(5)", x.count(5), 10);
        x.feed(0x37, 1);
        Due.due("32: it was a text", x.text(), 1);
        Due.due("32: as told", x.bedOf(3, 1), 7);
        for (int i = 1; i <= 29; i++) {
            Due.due("32: feed", x.feed(-1, 4), 4 * i);
        }
        x.feed(-1, 2);
        Due.due("32: 118 and 4", x.feed(-1, 4), Due.FULL);
        Due.due("32: 118 and 3", x.feed(-1, 3), Due.FULL);
        Due.due("32: 118 and 5", x.feed(-1, 5), Due.BEYOND);
        Due.due("32: 118 and 2", x.feed(-1, 2), 120);
        Due.due("32: 120 and 1", x.feed(-1, 1), Due.FULL);
        Due.due("33: wipe()", x.wipe(), 120);
        Due.due("33: wipe() again", x.wipe(), 0);
        Due.due("33: count(5)", x.count(5), 0);
        Due.due("33: what is fed then is first", x.feed(65, 1), 1);
        Due.due("33: wipe() of one", x.wipe(), 1);
    }

    private static OysterSecrets fresh;

    private static void reads(String text, int want) {
        fresh = new OysterSecrets();
        Due.feed(fresh, text);
        Due.due("34: \"" + text + "\"", fresh.text(), want);
        Due.due("34: the tape is empty behind \"" + text + "\"", fresh.wipe(), 0);
        Due.due("34: no finding in \"" + text + "\"", fresh.status(-1), 0);
    }

    private static void faults() {
        String[] texts = {"", "   ", ";", "oyster;", "oyster ; ", "oyster in", "oyster in 6", "oyster 3",
            "oyster weighs 100", "oyster weighs", "oyster layers 1000", "oyster layers 5 weighs 3",
            "oyster weighs 3 in 2", "oyster in 2 in 2", "oysters", "oyste", "Oyster", "oyster,", "oyster\tin 1",
            "oyster in -1", "oyster in 01 weighs 0099 layers 000999x", "bed", "bed 6", "bed x", "bed 0 cold 10",
            "bed 0 cold 1 nacre 1", "bed 0 nacre", "bed 0 nacre 1000", "bed 0 nacre 5 6", "bed 0 weighs 1",
            "comes", "comes 100", "comes 4294967296", "comes 5 5", "comes in 5", "5", "in 5", "nacre",
            "oyster oyster", "oyster;;oyster", "bed 0;comes 1;#", "comes 1#", "oyster in 0\u00e9",
            "oysterin 0", "oyster weighs 5layers", "oyster weighs 5layers 4weighs", "\nbed 0",
            "oysterz", "oystera", "bed 0/", "bed 0:", "bed 9", "oyster`", "oyster{", "oyster :", "bed 0 nacrex 5",
            "oyster weighs 5 4", "comes 5;;", "comes 5 oyster", "comes ;", "bed ; bed 0", "bed 0 cold ;"};
        int[] faults = {0, 3, 0, 7, 9, 9, 10, 7,
            14, 13, 14, 16,
            16, 12, 0, 0, 0, 6, 6,
            10, 38, 3, 4, 4, 11,
            13, 11, 12, 14, 6,
            5, 6, 6, 8, 6, 0, 0, 0,
            7, 7, 14, 7, 11,
            0, 21, 23, 0,
            0, 0, 5, 5, 4, 6, 6, 7, 6,
            16, 8, 8, 6, 4, 11};
        for (int i = 0; i < texts.length; i++) {
            reads(texts[i], -1 - faults[i]);
            Due.due("34: nothing changes by \"" + texts[i] + "\"", fresh.count(1), 0);
            Due.due("34: nothing comes by \"" + texts[i] + "\"", fresh.comes(20), 20);
            Due.due("34: no bed changes by \"" + texts[i] + "\"", fresh.now(4) + fresh.bedOf(0, 1), 603);
        }
    }

    private static void items() {
        reads("oyster", 1);
        Due.due("34: a plain one", fresh.of(0, 0) + fresh.of(0, 1) + fresh.of(0, 3), 0);
        Due.due("34: its weight", fresh.of(0, 2), 10);
        reads("oyster;black;seed;poor;moon;dear;minister", 7);
        for (int k = 0; k < 7; k++) {
            Due.due("34: kind", fresh.of(k, 0), k);
        }
        reads("  minister in5weighs99layers999 ;bed 5nacre 999cold 9 ; comes 99  ", 3);
        int[] wants = {6, 5, 99, 999, 0, 0};
        for (int what = 0; what < 6; what++) {
            Due.due("34: of(0, " + what + ")", fresh.of(0, what), wants[what]);
        }
        Due.due("34: nacre of 5", fresh.bedOf(5, 0), 999);
        Due.due("34: cold of 5", fresh.bedOf(5, 1), 9);
        Due.due("34: nacre of 4", fresh.bedOf(4, 0), 100);
        Due.due("34: comes", fresh.comes(1), 99);
        reads("dear weighs 0", 1);
        Due.due("34: told", fresh.now(2), 1);
        reads("dear layers 00", 1);
        reads("bed 2 cold 0", 1);
        Due.due("34: cold of 2", fresh.bedOf(2, 1), 0);
        Due.due("34: nacre of 2", fresh.bedOf(2, 0), 100);
        reads("bed 2 nacre 0", 1);
        Due.due("34: nacre of 2", fresh.bedOf(2, 0), 0);
        Due.due("34: cold of 2", fresh.bedOf(2, 1), 3);
        reads("bed 2", 1);
        reads("comes 5;comes 0;comes 7;bed 1 cold 4;bed 1 cold 5", 5);
        Due.due("34: the latest", fresh.comes(0), 7);
        Due.due("34: the latest", fresh.bedOf(1, 1), 5);
    }

    private static void ninth() {
        String eight = "moon;moon;moon;moon;moon;moon;moon;moon";
        reads(eight, 8);
        Due.feed(fresh, "bed 0;seed in 9");
        Due.due("34: a 9th by another text", fresh.text(), -7);
        Due.feed(fresh, "bed 0 cold 0;moon");
        Due.due("34: a 9th", fresh.text(), -14);
        Due.due("34: nothing changes", fresh.bedOf(0, 1), 3);
        Due.feed(fresh, "bed 0 cold 0;comes 2");
        Due.due("34: no oyster", fresh.text(), 2);
        reads(eight + "; moon", -42);
        Due.due("34: nothing changes", fresh.count(1), 0);
        reads("comes 1;" + eight + " ;moon", -1 - 8 - 41);
        fresh.oyster(0, 0);
        Due.feed(fresh, eight);
        Due.due("34: the 8th is a 9th", fresh.text(), -1 - 35);
        Due.due("34: one is there", fresh.count(1), 1);
    }

    private static void whole() {
        StringBuilder text = new StringBuilder();
        for (int i = 0; i < 23; i++) {
            text.append("bed").append(i % 6).append(';');
        }
        text.append("bed4");
        reads(text.toString(), 24);
        reads(text + ";", -1 - 120);
        reads(text + "#", -1 - 119);
        reads(";".repeat(120), -1);
        reads("a1".repeat(60), -1);
        reads("bed0" + ";".repeat(116), -1 - 5);
        reads(" ".repeat(120), -1 - 120);
        reads(" ".repeat(114) + "oyster", 1);
        reads("comes " + "0".repeat(114), 1);
        reads("comes " + "9".repeat(114), -1 - 6);
    }

    public static void main(String[] args) {
        feed();
        faults();
        items();
        ninth();
        whole();
        Due.end();
    }
}
