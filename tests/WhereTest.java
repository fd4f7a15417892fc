/** Promises 16 to 21: where, as what. */
public final class WhereTest {
    private static void sow() {
        OysterSecrets x = new OysterSecrets();
        x.oyster(0, 3);
        Due.due("16: all beds do", x.sow(0, 10), 0);
        Due.due("16: now", x.sow(0, 0), 0);
        x.comes(0);
        for (int b = 0; b < 6; b++) {
            x.bed(b, 0, b == 4 ? 20 : 10);
        }
        Due.due("16: in one year all do", x.sow(0, 1), 0);
        Due.due("16: bed 4 has most", x.sow(0, 2), 4);
        x.oyster(6, 4);
        x.change(1, 2, 50);
        Due.due("16: a later one takes after it", x.sow(0, 1), 0);
        Due.due("16: but then takes all", x.sow(0, 2), 0);
        x.bed(5, 0, 11);
        Due.due("16: bed 5 has most now", x.sow(0, 2), 5);
        Due.due("16: n of 40", x.sow(0, 40), 5);
        Due.due("16: n of 41", x.sow(0, 41), Due.BEYOND);
        Due.due("16: n of -1", x.sow(0, -1), Due.BEYOND);
        Due.due("16: sow(2, 1)", x.sow(2, 1), Due.BEYOND);
        Due.due("16: sow(-1, 1)", x.sow(-1, 1), Due.BEYOND);
        Due.due("16: nothing changes", x.of(0, 1), 3);
    }

    private static void kindFor() {
        OysterSecrets x = new OysterSecrets();
        x.oyster(2, 0);
        Due.due("17: a dear one", x.kindFor(0, 10), 5);
        Due.due("17: a black one, now", x.kindFor(0, 0), 1);
        x.change(0, 2, 99);
        x.bed(0, 0, 999);
        Due.due("17: a minister, of 99", x.kindFor(0, 10), 6);
        x.change(0, 2, 0);
        Due.due("17: told ones are all alike", x.kindFor(0, 10), 0);
        Due.due("17: n of 40", x.kindFor(0, 40), 0);
        Due.due("17: n of 41", x.kindFor(0, 41), Due.BEYOND);
        Due.due("17: n of -1", x.kindFor(0, -1), Due.BEYOND);
        Due.due("17: kindFor(1, 1)", x.kindFor(1, 1), Due.BEYOND);
        Due.due("17: kindFor(-1, 1)", x.kindFor(-1, 1), Due.BEYOND);
        Due.due("17: nothing changes", x.of(0, 0), 2);
    }

    private static void weightFor() {
        OysterSecrets x = new OysterSecrets();
        x.oyster(0, 0);
        Due.due("18: 30 layers", x.weightFor(0, 5), 30);
        Due.due("18: none", x.weightFor(0, 0), Due.NONE);
        Due.due("18: n of 40", x.weightFor(0, 40), 99);
        Due.due("18: n of 41", x.weightFor(0, 41), Due.BEYOND);
        Due.due("18: n of -1", x.weightFor(0, -1), Due.BEYOND);
        x.bed(0, 1, 0);
        Due.due("18: it shows, and is hidden then", x.weightFor(0, 1), 13);
        x.bed(0, 1, 3);
        x.change(0, 0, 2);
        Due.due("18: half of 1 is none", x.weightFor(0, 0), 1);
        x.change(0, 0, 6);
        x.bed(0, 0, 24);
        x.comes(0);
        Due.due("18: a minister's 10 and twice 7", x.weightFor(0, 40), 7);
        x.change(0, 2, 0);
        Due.due("18: of a told one", x.weightFor(0, 40), 7);
        Due.due("18: weightFor(1, 1)", x.weightFor(1, 1), Due.BEYOND);
        Due.due("18: weightFor(-1, 1)", x.weightFor(-1, 1), Due.BEYOND);
        Due.due("18: nothing changes", x.of(0, 2), 0);
    }

    private static void comesFor() {
        OysterSecrets x = new OysterSecrets();
        x.oyster(0, 0);
        x.bed(0, 0, 0);
        Due.due("19: twice 5", x.comesFor(0, 3), 5);
        Due.due("19: 10 times 1", x.comesFor(0, 11), 1);
        Due.due("19: too early", x.comesFor(0, 1), Due.NONE);
        x.change(0, 3, 10);
        Due.due("19: hidden already", x.comesFor(0, 0), 0);
        x.change(0, 2, 0);
        Due.due("19: of a told one", x.comesFor(0, 40), Due.NONE);
        x.change(0, 2, 99);
        x.change(0, 3, 0);
        x.oyster(6, 0);
        x.change(1, 2, 99);
        x.change(0, 0, 6);
        x.change(0, 1, 1);
        x.change(1, 1, 1);
        x.bed(1, 0, 0);
        x.change(0, 3, 183);
        x.change(1, 0, 6);
        Due.due("19: 25 more in one year", x.comesFor(0, 2), 25);
        Due.due("19: the other one takes but what is left", x.comesFor(1, 8), 60);
        Due.due("19: n of 41", x.comesFor(0, 41), Due.BEYOND);
        Due.due("19: n of -1", x.comesFor(0, -1), Due.BEYOND);
        Due.due("19: comesFor(2, 1)", x.comesFor(2, 1), Due.BEYOND);
        Due.due("19: comesFor(-1, 1)", x.comesFor(-1, 1), Due.BEYOND);
        Due.due("19: nothing changes", x.comes(0), 20);
        OysterSecrets last = new OysterSecrets();
        last.bed(0, 0, 0);
        for (int i = 0; i < 3; i++) {
            last.oyster(6, 0);
            last.change(i, 2, 99);
        }
        last.oyster(5, 0);
        last.change(3, 2, 15);
        last.change(3, 4, 40);
        last.change(3, 3, 1);
        Due.due("19: three take 30 each, 9 are left", last.comesFor(3, 2), 99);
        last.change(3, 3, 0);
        Due.due("19: 10 are not", last.comesFor(3, 2), Due.NONE);
    }

    private static void coldFor() {
        OysterSecrets x = new OysterSecrets();
        x.oyster(0, 0);
        Due.due("20: from 3 on it never opens", x.coldFor(0, 1), 3);
        Due.due("20: now", x.coldFor(0, 0), 0);
        x.change(0, 3, 10);
        Due.due("20: hidden", x.coldFor(0, 40), 0);
        x.change(0, 3, 0);
        x.change(0, 5, 999);
        Due.due("20: 999 is 999", x.coldFor(0, 40), 0);
        x.change(0, 5, 4);
        Due.due("20: shown before", x.coldFor(0, 40), 3);
        x.change(0, 0, 3);
        x.change(0, 2, 20);
        Due.due("20: a poor one", x.coldFor(0, 1), 8);
        x.change(0, 2, 22);
        Due.due("20: a poor one of 22", x.coldFor(0, 1), 9);
        x.change(0, 2, 24);
        Due.due("20: a poor one of 24", x.coldFor(0, 1), Due.NONE);
        x.change(0, 2, 99);
        Due.due("20: a poor one of 99", x.coldFor(0, 40), Due.NONE);
        Due.due("20: n of 41", x.coldFor(0, 41), Due.BEYOND);
        Due.due("20: n of -1", x.coldFor(0, -1), Due.BEYOND);
        Due.due("20: coldFor(1, 1)", x.coldFor(1, 1), Due.BEYOND);
        Due.due("20: coldFor(-1, 1)", x.coldFor(-1, 1), Due.BEYOND);
        Due.due("20: nothing changes", x.bedOf(0, 1), 3);
    }

    private static void room() {
        OysterSecrets x = new OysterSecrets();
        x.bed(0, 0, 10);
        x.comes(0);
        x.oyster(0, 0);
        x.oyster(0, 0);
        x.oyster(0, 0);
        Due.due("21: none need be taken up", x.room(0, 6, 1), 0);
        Due.due("21: nor for 0 layers", x.room(2, 0, 20), 0);
        Due.due("21: one", x.room(2, 4, 1), 1);
        Due.due("21: two", x.room(2, 5, 1), 3);
        Due.due("21: and all that there is", x.room(2, 10, 20), 3);
        Due.due("21: no more than there is", x.room(2, 11, 20), Due.NONE);
        Due.due("21: no more than it takes", x.room(2, 7, 1), Due.NONE);
        Due.due("21: now", x.room(2, 1, 0), Due.NONE);
        Due.due("21: those behind it, in two years", x.room(0, 10, 2), 6);
        Due.due("21: v of 999", x.room(2, 999, 20), Due.NONE);
        Due.due("21: v of 1000", x.room(2, 1000, 1), Due.BEYOND);
        Due.due("21: v of -1", x.room(2, -1, 1), Due.BEYOND);
        Due.due("21: n of 21", x.room(2, 1, 21), Due.BEYOND);
        Due.due("21: n of -1", x.room(2, 1, -1), Due.BEYOND);
        Due.due("21: room(3, 1, 1)", x.room(3, 1, 1), Due.BEYOND);
        Due.due("21: room(-1, 1, 1)", x.room(-1, 1, 1), Due.BEYOND);
        Due.due("21: nothing changes, and none is taken up", x.go(1), 10);
        OysterSecrets few = new OysterSecrets();
        few.bed(0, 0, 24);
        few.comes(0);
        few.oyster(0, 0);
        few.oyster(0, 0);
        few.oyster(6, 0);
        few.oyster(0, 0);
        Due.due("21: one of 4 is fewer than two of 3", few.room(3, 6, 1), 4);
    }

    // Taken up alone, oyster 0 lets oyster 1 be hidden, which takes more then.
    private static void roomOfSomeAlone() {
        OysterSecrets x = new OysterSecrets();
        x.bed(0, 0, 6);
        x.bed(0, 1, 0);
        x.comes(8);
        x.oyster(0, 0);
        x.oyster(5, 0);
        x.oyster(0, 0);
        x.change(0, 3, 10);
        x.change(1, 2, 7);
        x.change(1, 4, 90);
        x.change(2, 2, 99);
        Due.due("21: with all there", x.ahead(2, 3, 3), 4);
        Due.due("21: 4 layers", x.room(2, 4, 3), 0);
        Due.due("21: 5 layers", x.room(2, 5, 3), 3);
        Due.due("21: 18 layers", x.room(2, 18, 3), 3);
        Due.due("21: 19 layers", x.room(2, 19, 3), Due.NONE);
    }

    public static void main(String[] args) {
        sow();
        kindFor();
        weightFor();
        comesFor();
        coldFor();
        room();
        roomOfSomeAlone();
        Due.end();
    }
}
