/** Promises 11 to 15: what will be. */
public final class AheadTest {
    private static OysterSecrets warm() {
        OysterSecrets x = new OysterSecrets();
        x.bed(0, 1, 0);
        x.oyster(0, 0);
        return x;
    }

    private static void ahead() {
        OysterSecrets x = warm();
        Due.due("11: ahead(0, 2, 0)", x.ahead(0, 2, 0), 10);
        Due.due("11: ahead(0, 3, 0)", x.ahead(0, 3, 0), 0);
        Due.due("11: ahead(0, 2, 1)", x.ahead(0, 2, 1), 3);
        Due.due("11: ahead(0, 3, 1)", x.ahead(0, 3, 1), 6);
        Due.due("11: ahead(0, 5, 1)", x.ahead(0, 5, 1), 1);
        Due.due("11: ahead(0, 5, 100)", x.ahead(0, 5, 100), 1);
        Due.due("11: ahead(0, 3, 100)", x.ahead(0, 3, 100), 600);
        Due.due("11: ahead(0, 3, 101)", x.ahead(0, 3, 101), Due.BEYOND);
        Due.due("11: ahead(0, 3, -1)", x.ahead(0, 3, -1), Due.BEYOND);
        for (int what : new int[] {-1, 0, 1, 4, 6, 9}) {
            Due.due("11: ahead(0, " + what + ", 1)", x.ahead(0, what, 1), Due.BEYOND);
        }
        Due.due("11: ahead(1, 3, 1)", x.ahead(1, 3, 1), Due.BEYOND);
        Due.due("11: ahead(-1, 3, 1)", x.ahead(-1, 3, 1), Due.BEYOND);
        Due.due("11: nothing changes", x.of(0, 3) + x.now(0), 0);
        Due.due("11: nacre", x.bedOf(0, 0), 100);
    }

    private static void worth() {
        OysterSecrets x = warm();
        x.oyster(5, 1);
        Due.due("12: worth(0, 0)", x.worth(0, 0), 0);
        Due.due("12: worth(0, 3)", x.worth(0, 3), 18);
        Due.due("12: worth(1, 10)", x.worth(1, 10), 180);
        Due.due("12: worth(1, 11)", x.worth(1, 11), 201);
        Due.due("12: worth(0, 100)", x.worth(0, 100), 600);
        Due.due("12: worth(0, 101)", x.worth(0, 101), Due.BEYOND);
        Due.due("12: worth(0, -1)", x.worth(0, -1), Due.BEYOND);
        Due.due("12: worth(2, 1)", x.worth(2, 1), Due.BEYOND);
        Due.due("12: worth(-1, 1)", x.worth(-1, 1), Due.BEYOND);
        x.change(0, 2, 0);
        Due.due("12: of a told one", x.worth(0, 3), 0);
        Due.due("12: nothing changes", x.now(0), 0);
    }

    private static void hidden() {
        OysterSecrets x = new OysterSecrets();
        x.oyster(0, 0);
        Due.due("13: hidden(0)", x.hidden(0), 2);
        x.change(0, 2, 12);
        Due.due("13: hidden(0) of 12", x.hidden(0), 2);
        x.change(0, 2, 13);
        Due.due("13: hidden(0) of 13", x.hidden(0), 3);
        x.change(0, 3, 13);
        Due.due("13: hidden(0) at once", x.hidden(0), 0);
        x.change(0, 2, 0);
        Due.due("13: of a told one", x.hidden(0), Due.NONE);
        Due.due("13: hidden(1)", x.hidden(1), Due.BEYOND);
        Due.due("13: hidden(-1)", x.hidden(-1), Due.BEYOND);
        OysterSecrets slow = new OysterSecrets();
        slow.bed(0, 0, 0);
        slow.comes(1);
        slow.oyster(6, 0);
        slow.change(0, 2, 95);
        Due.due("13: behind 201", slow.hidden(0), Due.NONE);
        slow.change(0, 3, 1);
        Due.due("13: behind 200", slow.hidden(0), 200);
        slow.change(0, 3, 2);
        Due.due("13: behind 199", slow.hidden(0), 199);
        Due.due("13: nothing changes", slow.now(0), 0);
    }

    private static void told() {
        OysterSecrets x = warm();
        Due.due("14: told(0) of one that will be hidden", x.told(0), Due.NONE);
        x.bed(0, 0, 0);
        x.comes(0);
        Due.due("14: told(0)", x.told(0), 2);
        x.change(0, 2, 7);
        Due.due("14: told(0) of 7", x.told(0), 1);
        x.change(0, 2, 99);
        Due.due("14: told(0) of 99", x.told(0), 15);
        x.change(0, 0, 4);
        Due.due("14: told(0) of a moon one that nothing hides in the end", x.told(0), Due.NONE);
        x.change(0, 2, 98);
        Due.due("14: told(0) of a moon one of 98", x.told(0), 42);
        x.change(0, 2, 0);
        Due.due("14: told(0) of a told one", x.told(0), 0);
        Due.due("14: told(1)", x.told(1), Due.BEYOND);
        Due.due("14: told(-1)", x.told(-1), Due.BEYOND);
        Due.due("14: nothing changes", x.now(0), 0);
    }

    private static void dive() {
        OysterSecrets x = new OysterSecrets();
        x.oyster(0, 0);
        Due.due("15: dive(0)", x.dive(0), 60);
        x.change(0, 3, 939);
        Due.due("15: dive(0) of 939 layers", x.dive(0), 10);
        x.change(0, 3, 999);
        Due.due("15: dive(0) of 999 layers", x.dive(0), 0);
        x.change(0, 3, 0);
        x.change(0, 2, 0);
        Due.due("15: dive(0) of a told one", x.dive(0), 0);
        x.change(0, 0, 1);
        x.change(0, 2, 40);
        x.bed(0, 0, 6);
        x.bed(0, 1, 0);
        x.comes(0);
        Due.due("15: a black one that shows is best now", x.dive(0), 0);
        x.bed(0, 0, 20);
        Due.due("15: or behind a year that brings more than it costs", x.dive(0), 2);
        Due.due("15: dive(1)", x.dive(1), Due.BEYOND);
        Due.due("15: dive(-1)", x.dive(-1), Due.BEYOND);
        Due.due("15: nothing changes", x.now(0), 0);
    }

    public static void main(String[] args) {
        ahead();
        worth();
        hidden();
        told();
        dive();
        Due.end();
    }
}
