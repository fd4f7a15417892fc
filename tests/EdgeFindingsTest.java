/** The sentences of the document's Terms on findings, quotients and which number counts: a test for each. */
public final class EdgeFindingsTest {
    /** "FINDINGS are answers below -1000000: LOW is -1000001; LOW BEYOND, LOW - 1 FULL, LOW - 2 KIND, .." */
    private static void theirNumbers() {
        OysterSecrets x = new OysterSecrets();
        x.oyster(0, 0);
        x.hold(0, 0);
        Due.due("Terms: BEYOND", x.go(0), -1000001);
        Due.due("Terms: FULL", Edge.full().oyster(0, 0), -1000002);
        Due.due("Terms: KIND", x.as(0, 1), -1000003);
        Due.due("Terms: NONE", x.undo(), -1000004);
        Due.due("Terms: STATE", Edge.inYear(99999).go(1), -1000005);
        Due.due("Terms: MISSING", x.load(0), -1000006);
        Due.due("Terms: SIZE", x.sheet(0, 8, -1), -1000007);
    }

    /** "(in longs, too)" */
    private static void inLongs() {
        Due.due("Terms: BEYOND in a long", new OysterSecrets().odds(21, 0), -1000001L);
        Due.due("Terms: BEYOND in a long", new OysterSecrets().odds(0, 2), -1000001L);
    }

    /** "What seed() and count(6) tell, z, may be any int: that is no finding." */
    private static void zIsNoFinding() {
        OysterSecrets x = new OysterSecrets();
        int was = 1;
        for (int z : new int[] {-1000000, -1000001, -1000007, -1000008, Integer.MIN_VALUE, Integer.MAX_VALUE, 0}) {
            Due.due("Terms: seed(" + z + ")", x.seed(z), was);
            Due.due("Terms: count(6) of " + z, x.count(6), z);
            was = z;
        }
        for (int which = -1; which < 7; which++) {
            Due.due("Terms: z is no finding: status(" + which + ")", x.status(which), 0);
        }
    }

    /** "Each act tells its findings in the order in which they are asked (that of its words)" */
    private static void theirOrder() {
        Edge.refused("5: BEYOND ahead of FULL, by the kind", Edge::full, x -> x.oyster(7, 0), Due.BEYOND);
        Edge.refused("5: BEYOND ahead of FULL, by the bed", Edge::full, x -> x.oyster(0, 6), Due.BEYOND);
        Edge.refused("5: FULL behind it", Edge::full, x -> x.oyster(6, 5), Due.FULL);
        Edge.refused("32: BEYOND ahead of FULL", EdgeFindingsTest::fullTape, x -> x.feed(0, 5), Due.BEYOND);
        Edge.refused("32: FULL behind it", EdgeFindingsTest::fullTape, x -> x.feed(0, 4), Due.FULL);
        Edge.refused("9: BEYOND ahead of STATE", () -> Edge.inYear(99999), x -> x.go(61), Due.BEYOND);
        Edge.refused("9: STATE behind it", () -> Edge.inYear(99999), x -> x.go(60), Due.STATE);
        Edge.refused("29: BEYOND ahead of STATE", () -> Edge.inYear(99999), x -> x.storms(21), Due.BEYOND);
        Edge.refused("29: STATE behind it", () -> Edge.inYear(99999), x -> x.storms(20), Due.STATE);
    }

    private static OysterSecrets fullTape() {
        OysterSecrets x = new OysterSecrets();
        for (int i = 0; i < 30; i++) {
            x.feed(0x20202020, 4);
        }
        return x;
    }

    /** The order where NONE comes behind BEYOND: what would answer NONE, asked with what is BEYOND. */
    private static void noneBehindBeyond() {
        Edge.Maker told = () -> {
            OysterSecrets x = new OysterSecrets();
            x.oyster(0, 0);
            x.change(0, 2, 0);
            x.sheet(0, 8, 1);
            x.write(0, 0, 5);
            return x;
        };
        Edge.refused("13: NONE", told, x -> x.hidden(0), Due.NONE);
        Edge.refused("13: BEYOND", told, x -> x.hidden(1), Due.BEYOND);
        Edge.refused("19: NONE", told, x -> x.comesFor(0, 40), Due.NONE);
        Edge.refused("19: BEYOND", told, x -> x.comesFor(0, 41), Due.BEYOND);
        Edge.refused("18: NONE", told, x -> x.weightFor(0, 0), Due.NONE);
        Edge.refused("18: BEYOND", told, x -> x.weightFor(0, -1), Due.BEYOND);
        Edge.refused("21: NONE", told, x -> x.room(0, 1, 20), Due.NONE);
        Edge.refused("21: BEYOND", told, x -> x.room(0, 1, 21), Due.BEYOND);
        Edge.refused("27: NONE", told, x -> x.weighed(0, 0), Due.NONE);
        Edge.refused("27: BEYOND", told, x -> x.weighed(0, 1), Due.BEYOND);
    }

    /** The order of the acts on spots and sheets. */
    private static void orderOfSheets() {
        Edge.refused("36: BEYOND, of a spot with nothing", Edge::busy, x -> x.as(1, 7), Due.BEYOND);
        Edge.refused("36: MISSING behind it", Edge::busy, x -> x.as(1, 6), Due.MISSING);
        Edge.refused("36: KIND behind that", Edge::busy, x -> x.as(2, 6), Due.KIND);
        Edge.refused("37: BEYOND for the sheet ahead of SIZE", Edge::busy, x -> x.sheet(4, 8, -1), Due.BEYOND);
        Edge.refused("37: BEYOND for the bits ahead of SIZE", Edge::busy, x -> x.sheet(0, 9, -1), Due.BEYOND);
        Edge.refused("37: SIZE behind them", Edge::busy, x -> x.sheet(0, 8, -1), Due.SIZE);
        Edge.refused("38: BEYOND for the sheet", Edge::busy, x -> x.write(4, 99, 0), Due.BEYOND);
        Edge.refused("38: MISSING behind it", Edge::busy, x -> x.write(3, 99, 0), Due.MISSING);
        Edge.refused("38: BEYOND for the number", Edge::busy, x -> x.write(0, 99, 0), Due.BEYOND);
        Edge.refused("39: BEYOND for a sheet ahead of MISSING", Edge::busy, x -> x.copy(3, 0, 4, 0, 0), Due.BEYOND);
        Edge.refused("39: MISSING ahead of KIND", Edge::busy, x -> x.copy(0, -1, 3, 0, 0), Due.MISSING);
        Edge.refused("39: KIND ahead of BEYOND", Edge::busy, x -> x.copy(0, -1, 1, 0, 0), Due.KIND);
        Edge.refused("39: BEYOND behind them", Edge::busy, x -> x.copy(0, -1, 0, 0, 0), Due.BEYOND);
        Edge.refused("26: BEYOND for the sheet", Edge::busy, x -> x.fits(4, 7), Due.BEYOND);
        Edge.refused("26: MISSING ahead of the oyster", Edge::busy, x -> x.fits(3, 7), Due.MISSING);
        Edge.refused("26: BEYOND for the oyster", Edge::busy, x -> x.fits(0, 7), Due.BEYOND);
        Edge.refused("27: BEYOND for the sheet", Edge::busy, x -> x.weighed(4, 7), Due.BEYOND);
        Edge.refused("27: MISSING ahead of the oyster", Edge::busy, x -> x.weighed(3, 7), Due.MISSING);
        Edge.refused("27: BEYOND for the oyster", Edge::busy, x -> x.weighed(0, 7), Due.BEYOND);
        Edge.refused("28: BEYOND for the sheet", Edge::busy, x -> x.kinds(4, 7), Due.BEYOND);
        Edge.refused("28: MISSING ahead of the oyster", Edge::busy, x -> x.kinds(3, 7), Due.MISSING);
        Edge.refused("28: BEYOND for the oyster", Edge::busy, x -> x.kinds(0, 7), Due.BEYOND);
    }

    /** "one that answers a finding changes nothing but status()": also many of them, one after the other. */
    private static void manyFindings() {
        OysterSecrets x = Edge.busy();
        int before = x.status(-1);
        for (int i = 0; i < 20; i++) {
            x.go(61);
            x.undo();
            x.bed(0, 1, 10);
            x.write(3, 0, 1);
        }
        Due.due("Terms: three findings each time", x.status(-1), before + 60);
        Due.due("Terms: status() itself finds nothing", x.status(-1), before + 60);
    }

    /** "Quotients are cut." */
    private static void quotients() {
        OysterSecrets x = new OysterSecrets();
        for (int k = 0; k < 7; k++) {
            x.oyster(k, 0);
            x.change(k, 2, 19);
            x.change(k, 3, 5);
            x.change(k, 4, 19);
        }
        Due.due("Terms: a tenth of 19 is 1", x.of(1, 6), 7);
        Due.due("Terms: 19 years are one ten", x.of(5, 6), 7);
        Due.due("Terms: half of 19 is 9", x.of(2, 7), 9);
        Due.due("Terms: half of 5 is 2", x.of(2, 9), 2);
        x.change(1, 2, 20);
        x.change(5, 4, 20);
        x.change(2, 2, 20);
        x.change(2, 3, 6);
        Due.due("Terms: a tenth of 20 is 2", x.of(1, 6), 8);
        Due.due("Terms: 20 years are two tens", x.of(5, 6), 8);
        Due.due("Terms: half of 20 is 10", x.of(2, 7), 10);
        Due.due("Terms: half of 6 is 3", x.of(2, 9), 3);
    }

    /** "Sets are told as bits": of none 0, of all eight 255. */
    private static void sets() {
        OysterSecrets x = Edge.fresh();
        Due.due("Terms: no oyster in bed 0", x.bedOf(0, 2), 0);
        Due.due("Terms: none told", x.now(2), 0);
        Due.due("Terms: none hidden", x.now(3), 0);
        for (int i = 0; i < 8; i++) {
            x.oyster(0, 0);
            Due.due("Terms: oysters 0 to " + i + " in bed 0", x.bedOf(0, 2), (2 << i) - 1);
        }
        for (int i = 0; i < 8; i++) {
            x.change(i, 2, 0);
        }
        Due.due("Terms: all eight told", x.now(2), 255);
        Due.due("Terms: all eight alike", x.alike(7, 0), 255);
        for (int i = 0; i < 8; i++) {
            x.change(i, 2, 1);
            x.change(i, 3, 1);
        }
        Due.due("Terms: all eight hidden", x.now(3), 255);
    }

    /** "of several that would do the least number counts, where nothing else is told" */
    private static void theLeastNumber() {
        OysterSecrets x = Edge.full();
        x.change(7, 1, 5);
        x.comes(0);
        for (int b = 0; b < 6; b++) {
            x.bed(b, 0, 0);
        }
        Due.due("Terms: of six beds that do", x.sow(7, 40), 0);
        x.change(7, 2, 0);
        Due.due("Terms: of seven kinds that do", x.kindFor(7, 40), 0);
        Due.due("Terms: of 61 years that do", x.dive(7), 0);
        OysterSecrets two = new OysterSecrets();
        two.comes(0);
        for (int b = 0; b < 6; b++) {
            two.bed(b, 0, b == 2 || b == 4 ? 5 : 0);
        }
        two.oyster(0, 5);
        Due.due("Terms: beds 2 and 4 do", two.sow(0, 1), 2);
        two.change(0, 2, 10);
        two.change(0, 3, 0);
        Due.due("Terms: a black and a minister one do", two.kindFor(0, 0), 1);
        two.bed(5, 0, 6);
        two.oyster(0, 5);
        two.oyster(0, 5);
        two.oyster(0, 5);
        two.bed(5, 0, 13);
        Due.due("Terms: one of three to take up, the least of them", two.room(3, 1, 1), 1);
    }

    /** "An object is used for at most 512 calls after it has been made": the 512th answers as the first does */
    private static void the512thCall() {
        OysterSecrets years = new OysterSecrets();
        for (int i = 1; i < 512; i++) {
            years.go(1);
        }
        Due.due("the 512th call: YEAR", years.count(0), 511);
        OysterSecrets findings = new OysterSecrets();
        for (int i = 1; i < 512; i++) {
            findings.status(7 + i);
        }
        Due.due("the 512th call: findings", findings.status(-1), 511);
        OysterSecrets dear = Edge.full();
        for (int i = 0; i < 500; i += 2) {
            dear.room(7, 999, 20);
            dear.go(1);
        }
        Due.due("one of the last calls: layers of a dear oyster", dear.of(5, 3), 999);
        Due.due("one of the last calls: FULL", dear.oyster(0, 0), Due.FULL);
    }

    public static void main(String[] args) {
        theirNumbers();
        inLongs();
        zIsNoFinding();
        theirOrder();
        noneBehindBeyond();
        orderOfSheets();
        manyFindings();
        quotients();
        sets();
        theLeastNumber();
        the512thCall();
        Due.end();
    }
}
