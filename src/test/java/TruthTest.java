/** Promises 54 to 61: born, gives, years, drawn, seed, image, back, status. */
public final class TruthTest {
    public static void main(String[] args) {
        promise54Born();
        promise55Gives();
        promise56Years();
        promise57Drawn();
        promise57DrawnOfItself();
        promise58Seed();
        promise59Image();
        promise60Back();
        promise60BackShelves();
        promise61Status();
        Due.end("TruthTest");
    }

    private static void promise54Born() {
        CorkSaysWhen x = new CorkSaysWhen();
        Due.due("born(5, 9, 999, NONE)", x.born(5, 9, 999, -1), 0);
        Due.due("born(3, 4, 7, 0)", x.born(3, 4, 7, 0), 1);
        int[][] want = {{5, 9, -1, 999, 0, 0, 0, -999}, {3, 4, 0, 7, 0, 0, 0, -7}};
        for (int heir = 0; heir < 2; heir++) {
            for (int what = 0; what < 8; what++) {
                Due.due("heirOf(" + heir + ", " + what + ")", x.heirOf(heir, what), want[heir][what]);
            }
        }
        Due.unchanged(x, () -> {
            Due.refused(x, "born(6, ..)", Due.BAD, () -> x.born(6, 0, 0, -1));
            Due.refused(x, "born(-1, ..)", Due.BAD, () -> x.born(-1, 0, 0, -1));
            Due.refused(x, "born(0, 10, ..)", Due.BAD, () -> x.born(0, 10, 0, -1));
            Due.refused(x, "born(0, -1, ..)", Due.BAD, () -> x.born(0, -1, 0, -1));
            Due.refused(x, "born(0, 0, 1000, ..)", Due.BAD, () -> x.born(0, 0, 1000, -1));
            Due.refused(x, "born(0, 0, -1, ..)", Due.BAD, () -> x.born(0, 0, -1, -1));
            Due.refused(x, "born(0, 0, 0, 2)", Due.BAD, () -> x.born(0, 0, 0, 2));
            Due.refused(x, "born(0, 0, 0, -2)", Due.BAD, () -> x.born(0, 0, 0, -2));
        });
        for (int heir = 2; heir < 10; heir++) {
            Due.due("born for " + heir, x.born(0, 0, 0, heir - 1), heir);
        }
        Due.unchanged(x, () -> {
            Due.refused(x, "born, no room", Due.FULL, () -> x.born(0, 0, 0, -1));
            Due.refused(x, "born, no room: BAD is ahead of FULL", Due.BAD, () -> x.born(6, 0, 0, -1));
            Due.refused(x, "born, no room: BAD is ahead of FULL", Due.BAD, () -> x.born(0, 0, 0, 10));
        });
    }

    private static void promise55Gives() {
        CorkSaysWhen x = Due.of("heir 0 0 0; heir 0 0 60; heir 2 0 60; has 1 30; has 2 5; year 70; store 0");
        x.years(1);
        Due.due("0 is DEAD", x.who(2), 1);
        Due.due("gives(1, 2, 10)", x.gives(1, 2, 10), 20);
        Due.due("2 HAS", x.heirOf(2, 4), 15);
        Due.due("gives(1, 2, 20)", x.gives(1, 2, 20), 0);
        Due.due("gives(1, 2, 0)", x.gives(1, 2, 0), 0);
        Due.due("2 HAS", x.heirOf(2, 4), 35);
        Due.due("nothing is USED so", x.status(5), 0);
        Due.unchanged(x, () -> {
            Due.refused(x, "gives(2, 1, 36)", Due.STUCK, () -> x.gives(2, 1, 36));
            Due.refused(x, "gives(2, 1, 9999)", Due.STUCK, () -> x.gives(2, 1, 9999));
            Due.refused(x, "gives(2, 0, 1)", Due.STUCK, () -> x.gives(2, 0, 1));
            Due.refused(x, "gives(0, 2, 0)", Due.STUCK, () -> x.gives(0, 2, 0));
            Due.refused(x, "gives(2, 2, 1)", Due.BAD, () -> x.gives(2, 2, 1));
            Due.refused(x, "gives(0, 0, 1)", Due.BAD, () -> x.gives(0, 0, 1));
            Due.refused(x, "gives(3, 2, 1)", Due.BAD, () -> x.gives(3, 2, 1));
            Due.refused(x, "gives(-1, 2, 1)", Due.BAD, () -> x.gives(-1, 2, 1));
            Due.refused(x, "gives(0, 3, 1)", Due.BAD, () -> x.gives(0, 3, 1));
            Due.refused(x, "gives(0, -1, 1)", Due.BAD, () -> x.gives(0, -1, 1));
            Due.refused(x, "gives(0, 1, -1)", Due.BAD, () -> x.gives(0, 1, -1));
            Due.refused(x, "gives(0, 1, 10000)", Due.BAD, () -> x.gives(0, 1, 10000));
        });
    }

    private static void promise56Years() {
        CorkSaysWhen x = Due.of("heir 2 4 0; heir 0 0 30; year 20");
        Due.due("years(1)", x.years(1), 660);
        Due.due("years(1)", x.years(1), 600);
        Due.due("HAS", x.heirOf(0, 4), 56);
        Due.due("USED", x.heirOf(0, 5), 4);
        Due.due("years(29)", x.years(29), 600);
        Due.due("HAS", x.heirOf(0, 4), 0);
        Due.due("USED", x.heirOf(0, 5), 60);
        Due.due("years(60)", x.years(60), 540);
        Due.due("YEAR", x.status(2), 111);
        Due.due("who is DEAD", x.who(2), 3);
        Due.due("all 60 were USED", x.heirOf(1, 5), 60);
        x.tell(1, 998);
        x.years(2);
        Due.due("YEAR", x.status(2), 999);
        Due.unchanged(x, () -> {
            Due.refused(x, "years(0)", Due.BAD, () -> x.years(0));
            Due.refused(x, "years(61)", Due.BAD, () -> x.years(61));
            Due.refused(x, "years(-1)", Due.BAD, () -> x.years(-1));
        });
    }

    private static void promise57Drawn() {
        // These answers are the shared tests' own.
        CorkSaysWhen x = new CorkSaysWhen();
        x.years(60);
        Due.due("drawn(60)", x.drawn(60), 173);
        Due.due("HEIRS", x.status(0), 7);
        Due.due("STORE", x.status(1), 420);
        Due.due("USED", x.status(5), 173);
        Due.due("drawn(1)", new CorkSaysWhen().drawn(1), 0);
        Due.unchanged(x, () -> {
            Due.refused(x, "drawn(0)", Due.BAD, () -> x.drawn(0));
            Due.refused(x, "drawn(61)", Due.BAD, () -> x.drawn(61));
        });
    }

    private static int seed;

    private static int draw(int below) {
        seed = seed * 1103515245 + 12345;
        return (seed >>> 16) % below;
    }

    private static void promise57DrawnOfItself() {
        for (int start = -40; start < 40; start++) {
            CorkSaysWhen x = new CorkSaysWhen();
            CorkSaysWhen y = new CorkSaysWhen();
            x.seed(start * 99991);
            seed = start * 99991;
            int used = 0;
            for (int year = 0; year < 60; year++) {
                if (draw(4) == 0 && y.status(0) < 10) {
                    int kind = draw(6);
                    int a = draw(10);
                    int from = y.status(0) > 0 ? draw(y.status(0)) : -1;
                    y.born(kind, a, y.status(2), from);
                }
                int ahead = y.status(5);
                y.years(1);
                used += y.status(5) - ahead;
            }
            Due.due("drawn(60) from SEED " + start * 99991, x.drawn(60), used);
            y.seed(seed);
            Due.same("drawn(60) from SEED " + start * 99991, Due.all(x), Due.all(y));
        }
    }

    private static void promise58Seed() {
        CorkSaysWhen x = new CorkSaysWhen();
        Due.due("seed(7)", x.seed(7), 1);
        Due.due("seed(min)", x.seed(Integer.MIN_VALUE), 7);
        Due.due("seed(-1002)", x.seed(-1002), Integer.MIN_VALUE);
        Due.due("seed(0)", x.seed(0), -1002);
        Due.due("status(8)", x.status(8), 0);
        Due.due("nothing is refused", x.status(12), 0);
    }

    private static void promise59Image() {
        CorkSaysWhen x = Due.of("heir 1 2 3; child 2 3 4 0; has 0 9; store 77; year 30; rule 1; joy 4 0");
        x.years(2);
        x.seed(55);
        String kept = Due.all(x);
        Due.due("image()", x.image(), 1);
        Due.same("image changes nothing", Due.all(x), kept);
        x.tell(0, 1);
        x.tell(1, 2);
        x.tell(2, 0);
        x.joy(4, 5);
        x.gives(0, 1, 1);
        x.seed(1);
        x.born(0, 0, 0, 1);
        x.years(60);
        Due.due("back()", x.back(), 1);
        Due.same("all is again as it was", Due.all(x), kept);
        x.years(60);
        Due.due("back() again", x.back(), 1);
        Due.same("all is again as it was", Due.all(x), kept);
        x.tell(0, 5);
        x.image();
        x.tell(0, 6);
        x.back();
        Due.due("the later image", x.status(1), 5);
    }

    private static void promise60Back() {
        CorkSaysWhen x = new CorkSaysWhen();
        Due.unchanged(x, () -> {
            Due.refused(x, "back(), nothing was kept", Due.STUCK, () -> x.back());
        });
        x.image();
        Due.feed(x, "store 5");
        x.row(2, 3, 4);
        x.set(2, 3, 9);
        x.tell(9, 9);
        x.tell(0, 9);
        Due.due("back()", x.back(), 1);
        Due.due("STORE", x.status(1), 660);
        Due.due("THE TAPE stays", x.status(7), 7);
        Due.due("ROWS stay", x.element(2, 3), 9);
        Due.due("REFUSALS stay", x.status(12), 1);
        Due.due("REFUSALS stay", x.status(15), 1);
        Due.due("THE TAPE is read", x.store(), 1);
    }

    private static void promise60BackShelves() {
        CorkSaysWhen x = Due.of("heir 0 0 0; heir 1 0 0");
        x.image();
        x.born(2, 0, 0, -1);
        x.born(3, 0, 0, -1);
        x.show(0, 1);
        x.show(1, 2);
        x.show(7, 3);
        x.row(3, 0, 1);
        x.back();
        Due.due("holds(0)", x.holds(0), 11);
        Due.due("holds(1)", x.holds(1), -1);
        Due.due("holds(7)", x.holds(7), -1);
        Due.due("holds(3)", x.holds(3), 0);
        Due.due("status(9)", x.status(9), 2);
        x.born(4, 5, 0, -1);
        Due.due("a new HEIR isn't shown", x.holds(1), -1);
        Due.due("a new HEIR has all anew", x.heirOf(2, 0), 4);
        Due.unchanged(x, () -> {
            Due.refused(x, "says(1, 0)", Due.NOTHING, () -> x.says(1, 0));
        });
        x.tell(1, 70);
        x.years(1);
        Due.due("heir 2 is DEAD", x.heirOf(2, 6), 2);
        Due.read(x, "has 2 9");
        x.show(0, 2);
        x.back();
        Due.due("holds(0)", x.holds(0), -1);
        x.born(5, 1, 3, 1);
        int[] anew = {5, 1, 1, 3, 0, 0, 0, -3};
        for (int what = 0; what < 8; what++) {
            Due.due("a new HEIR: heirOf(2, " + what + ")", x.heirOf(2, what), anew[what]);
        }
        x.show(0, 1);
        Due.due("says(0, 1)", x.says(0, 1), 50);
    }

    private static void promise61Status() {
        CorkSaysWhen x = Due.of("heir 2 4 0; heir 2 3 9; heir 0 0 999; year 21; rule 1; has 1 50; has 2 7");
        x.years(1);
        // Heir 0 gets 66 and USES 4.
        Due.feed(x, "rule ");
        x.seed(-8);
        x.row(0, 0, 0);
        x.show(1, 0);
        x.show(2, 0);
        int[] want = {3, 594, 22, 1, 1, 4, 62 + 50 + 7, 5, -8, 3, -1, -1, 0, 0, 0, 0, 0, -1};
        for (int what = 0; what < want.length; what++) {
            Due.due("status(" + what + ")", x.status(what), want[what]);
        }
        Due.due("status(-1)", x.status(-1), -1);
        Due.due("status(max)", x.status(Integer.MAX_VALUE), -1);
        Due.due("status(min)", x.status(Integer.MIN_VALUE), -1);
        for (int i = 0; i < 5; i++) {
            x.tell(9, 9);
        }
        x.says(0, 0);
        x.says(0, 0);
        x.says(5, 0);
        x.gets(0);
        x.gets(0);
        x.gets(0);
        for (int i = 0; i < 247; i++) {
            x.feed(32);
        }
        int[] refused = {5, 2, 1, 3, 2};
        for (int i = 0; i < 5; i++) {
            Due.due("status(" + (12 + i) + ")", x.status(12 + i), refused[i]);
        }
        x.tell(1, 70);
        x.years(1);
        Due.due("USED by the DEAD counts", x.status(5), 4 + 4 + 3);
    }
}
