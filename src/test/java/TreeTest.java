/** Promises 26 to 29, 43, 44: part, line, kin, under, steps, share. */
public final class TreeTest {
    /** 0: 2, 3, 4; 1: 5; 2: 6, 7; 7: 8; 9 is FROM NONE. */
    private static final String TREE = "heir 0 0 0; heir 0 0 0; child 0 0 0 0; child 0 0 0 0; child 0 0 0 0;"
        + " child 0 0 0 1; child 0 0 0 2; child 0 0 0 2; child 0 0 0 7; heir 0 0 0";
    private static final int[] FROM = {-1, -1, 0, 0, 0, 1, 2, 2, 7, -1};

    public static void main(String[] args) {
        promise26Part();
        promise27Line();
        promise28Kin();
        promise29Under();
        promise43Steps();
        promise44Share();
        theDeadCount();
        refusals();
        Due.end("TreeTest");
    }

    private static void promise26Part() {
        CorkSaysWhen x = Due.of(TREE);
        int[] want = {3, 3, 9, 9, 9, 3, 18, 18, 18, 3};
        for (int heir = 0; heir < 10; heir++) {
            Due.due("part(" + heir + ")", x.part(heir), want[heir]);
        }
        Due.due("alone", Due.of("heir 0 0 0").part(0), 1);
    }

    private static void promise27Line() {
        CorkSaysWhen x = Due.of(TREE);
        int[] want = {0, 0, 1, 1, 1, 1, 2, 2, 3, 0};
        for (int heir = 0; heir < 10; heir++) {
            Due.due("line(" + heir + ")", x.line(heir), want[heir]);
        }
        CorkSaysWhen long10 = new CorkSaysWhen();
        for (int heir = 0; heir < 10; heir++) {
            long10.born(0, 0, 0, heir - 1);
        }
        Due.due("ten generations", long10.line(9), 9);
        Due.due("ten generations", long10.under(0), 1022);
        Due.due("ten generations", long10.steps(0, 9), 9);
        Due.due("ten generations", long10.kin(9, 3), 3);
        Due.due("ten generations", long10.kin(9, 0), 0);
        Due.due("ten generations", long10.kin(0, 9), 0);
        Due.due("all is his", long10.share(9, 9999), 9999);
        Due.due("ten generations", long10.part(9), 1);
    }

    private static boolean isFromOrSame(int heir, int ancestor) {
        return heir == ancestor || heir >= 0 && isFromOrSame(FROM[heir], ancestor);
    }

    private static int kin(int heir, int other) {
        return heir < 0 || isFromOrSame(other, heir) ? heir : kin(FROM[heir], other);
    }

    private static int up(int heir, int ancestor) {
        return heir == ancestor ? 0 : 1 + up(FROM[heir], ancestor);
    }

    private static void promise28Kin() {
        CorkSaysWhen x = Due.of(TREE);
        Due.due("kin(6, 8)", x.kin(6, 8), 2);
        Due.due("kin(8, 4)", x.kin(8, 4), 0);
        Due.due("kin(8, 7)", x.kin(8, 7), 7);
        Due.due("kin(0, 8)", x.kin(0, 8), 0);
        Due.due("kin(5, 5)", x.kin(5, 5), 5);
        Due.due("kin(5, 6)", x.kin(5, 6), -1);
        for (int heir = 0; heir < 10; heir++) {
            for (int other = 0; other < 10; other++) {
                Due.due("kin(" + heir + ", " + other + ")", x.kin(heir, other), kin(heir, other));
            }
        }
        Due.due("NONE isn't refused", x.status(12), 0);
    }

    private static void promise29Under() {
        CorkSaysWhen x = Due.of(TREE);
        int[] want = {0b111011100, 0b100000, 0b111000000, 0, 0, 0, 0, 0b100000000, 0, 0};
        for (int heir = 0; heir < 10; heir++) {
            Due.due("under(" + heir + ")", x.under(heir), want[heir]);
        }
    }

    private static void promise43Steps() {
        CorkSaysWhen x = Due.of(TREE);
        Due.due("steps(8, 8)", x.steps(8, 8), 0);
        Due.due("steps(8, 7)", x.steps(8, 7), 1);
        Due.due("steps(0, 8)", x.steps(0, 8), 3);
        Due.due("steps(8, 4)", x.steps(8, 4), 4);
        Due.due("steps(0, 1)", x.steps(0, 1), -1);
        for (int heir = 0; heir < 10; heir++) {
            for (int other = 0; other < 10; other++) {
                int nearest = kin(heir, other);
                int want = nearest < 0 ? -1 : up(heir, nearest) + up(other, nearest);
                Due.due("steps(" + heir + ", " + other + ")", x.steps(heir, other), want);
            }
        }
        Due.due("NONE isn't refused", x.status(12), 0);
    }

    private static void promise44Share() {
        CorkSaysWhen x = Due.of(TREE);
        Due.due("share(8, 0)", x.share(8, 0), 0);
        Due.due("share(8, 17)", x.share(8, 17), 0);
        Due.due("share(8, 18)", x.share(8, 18), 1);
        Due.due("share(8, 9999)", x.share(8, 9999), 555);
        Due.due("share(9, 9999)", x.share(9, 9999), 3333);
        Due.due("share(2, 100)", x.share(2, 100), 11);
        Due.unchanged(x, () -> {
            Due.refused(x, "share(0, -1)", Due.BAD, () -> x.share(0, -1));
            Due.refused(x, "share(0, 10000)", Due.BAD, () -> x.share(0, 10000));
        });
    }

    private static void theDeadCount() {
        CorkSaysWhen x = Due.of(TREE);
        x.tell(1, 70);
        x.years(1);
        Due.due("who are DEAD", x.who(2), 1023);
        Due.due("part(8)", x.part(8), 18);
        Due.due("under(2)", x.under(2), 0b111000000);
        Due.due("kin(6, 8)", x.kin(6, 8), 2);
    }

    private static void refusals() {
        for (int bad : new int[] {-1, 2, 10, Integer.MAX_VALUE, Integer.MIN_VALUE}) {
            CorkSaysWhen x = Due.of("heir 0 0 0; heir 0 0 0");
            Due.unchanged(x, () -> {
                Due.refused(x, "part(" + bad + ")", Due.BAD, () -> x.part(bad));
                Due.refused(x, "line(" + bad + ")", Due.BAD, () -> x.line(bad));
                Due.refused(x, "kin(" + bad + ", 0)", Due.BAD, () -> x.kin(bad, 0));
                Due.refused(x, "kin(0, " + bad + ")", Due.BAD, () -> x.kin(0, bad));
                Due.refused(x, "under(" + bad + ")", Due.BAD, () -> x.under(bad));
                Due.refused(x, "steps(" + bad + ", 0)", Due.BAD, () -> x.steps(bad, 0));
                Due.refused(x, "steps(0, " + bad + ")", Due.BAD, () -> x.steps(0, bad));
                Due.refused(x, "share(" + bad + ", 0)", Due.BAD, () -> x.share(bad, 0));
            });
        }
    }
}
