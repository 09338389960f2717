/** Promises 14 to 17, 38, 39, 45, 46, 52: heirOf, joyOf, uses, gets, who, rich, eldest, leaves, ofKind. */
public final class StandingTest {
    public static void main(String[] args) {
        promise14HeirOf();
        promise15JoyOf();
        promise16Uses();
        promise17Gets();
        promise38Who();
        promise39Rich();
        promise45Eldest();
        promise46Leaves();
        promise52OfKind();
        Due.end("StandingTest");
    }

    private static void promise14HeirOf() {
        CorkSaysWhen x = Due.of("heir 0 0 999; child 4 9 12 0; has 1 33; year 40");
        int[][] want = {{0, 0, -1, 999, 0, 0, 0, -959}, {4, 9, 0, 12, 33, 0, 0, 28}};
        for (int heir = 0; heir < 2; heir++) {
            for (int what = 0; what < 8; what++) {
                Due.due("heirOf(" + heir + ", " + what + ")", x.heirOf(heir, what), want[heir][what]);
            }
        }
        Due.due("NONE isn't refused", x.status(12), 0);
        x.years(1);
        // In the YEAR 40 heir 1 gets 60, and USES 9 of 93.
        int[] behind = {4, 9, 0, 12, 84, 9, 1, 29};
        for (int what = 0; what < 8; what++) {
            Due.due("heirOf(1, " + what + ") behind a YEAR", x.heirOf(1, what), behind[what]);
        }
        Due.unchanged(x, () -> {
            Due.refused(x, "heirOf(2, 0)", Due.BAD, () -> x.heirOf(2, 0));
            Due.refused(x, "heirOf(-1, 0)", Due.BAD, () -> x.heirOf(-1, 0));
            Due.refused(x, "heirOf(0, 8)", Due.BAD, () -> x.heirOf(0, 8));
            Due.refused(x, "heirOf(0, -1)", Due.BAD, () -> x.heirOf(0, -1));
            Due.refused(x, "heirOf(10, 0)", Due.BAD, () -> x.heirOf(10, 0));
        });
    }

    private static void promise15JoyOf() {
        CorkSaysWhen x = Due.of("joy 5 0; joy 7 9");
        int[] want = {1, 2, 3, 4, 5, 0, 7, 9};
        for (int thing = 0; thing < 8; thing++) {
            Due.due("joyOf(" + thing + ")", x.joyOf(thing), want[thing]);
        }
        Due.unchanged(x, () -> {
            Due.refused(x, "joyOf(-1)", Due.BAD, () -> x.joyOf(-1));
            Due.refused(x, "joyOf(8)", Due.BAD, () -> x.joyOf(8));
        });
    }

    private static void promise16Uses() {
        CorkSaysWhen x = Due.of("heir 0 3 0; heir 1 3 0; heir 2 3 0; heir 3 3 0; heir 4 3 0; heir 5 3 0");
        int[] drops = {0, 1, 2, 5, 9, 10, 11, 19, 20, 21, 9999};
        int[][] want = {
            {0, 1, 1, 1, 1, 1, 2, 2, 2, 3, 1000},
            {0, 1, 1, 3, 5, 5, 6, 10, 10, 11, 5000},
            {0, 1, 2, 3, 3, 3, 3, 3, 3, 3, 3},
            {0, 1, 2, 5, 8, 8, 9, 13, 13, 14, 5003},
            {0, 1, 2, 3, 3, 3, 3, 3, 3, 3, 3},
            {0, 1, 2, 2, 2, 2, 3, 3, 3, 4, 1001}};
        for (int heir = 0; heir < 6; heir++) {
            for (int i = 0; i < drops.length; i++) {
                Due.due("uses(" + heir + ", " + drops[i] + ")", x.uses(heir, drops[i]), want[heir][i]);
            }
        }
        x.tell(1, 7);
        for (int heir = 0; heir < 6; heir++) {
            Due.due("in an odd YEAR: uses(" + heir + ", 21)", x.uses(heir, 21), heir == 4 ? 0 : want[heir][9]);
        }
        Due.unchanged(x, () -> {
            Due.refused(x, "uses(6, 0)", Due.BAD, () -> x.uses(6, 0));
            Due.refused(x, "uses(-1, 0)", Due.BAD, () -> x.uses(-1, 0));
            Due.refused(x, "uses(0, -1)", Due.BAD, () -> x.uses(0, -1));
            Due.refused(x, "uses(0, 10000)", Due.BAD, () -> x.uses(0, 10000));
        });
    }

    private static void promise17Gets() {
        CorkSaysWhen x = Due.of("heir 0 0 0; heir 0 0 100; heir 0 0 500");
        int[] stores = {0, 1, 59, 60, 61, 100, 101, 9999};
        int[][] want = {
            {0, 1, 59, 60, 60, 60, 60, 60},
            {0, 1, 6, 6, 7, 10, 11, 1000},
            {0, 0, 19, 20, 20, 33, 33, 3333}};
        for (int rule = 0; rule < 3; rule++) {
            x.tell(2, rule);
            for (int i = 0; i < stores.length; i++) {
                x.tell(0, stores[i]);
                Due.due("gets(1) by " + rule + " of " + stores[i], x.gets(1), want[rule][i]);
            }
        }
        x.tell(1, 21);
        x.years(1);
        Due.due("two are YOUNG: gets(2)", x.gets(2), 3333);
        Due.unchanged(x, () -> {
            Due.refused(x, "gets(0)", Due.STUCK, () -> x.gets(0));
            Due.refused(x, "gets(3)", Due.BAD, () -> x.gets(3));
            Due.refused(x, "gets(-1)", Due.BAD, () -> x.gets(-1));
        });
        x.tell(1, 70);
        x.years(1);
        Due.due("heir 0 is DEAD", x.heirOf(0, 6), 2);
        Due.unchanged(x, () -> {
            Due.refused(x, "gets(0), DEAD", Due.STUCK, () -> x.gets(0));
        });
    }

    /** Heirs 0 and 1 are DEAD, 2 and 3 OF AGE, 4 and 5 YOUNG. */
    private static CorkSaysWhen three() {
        CorkSaysWhen x = Due.of("heir 2 0 5; heir 2 0 3; child 2 0 20 0; child 2 0 20 1; child 2 0 90 2; heir 2 0 80; year 75");
        x.years(1);
        return x;
    }

    private static void promise38Who() {
        CorkSaysWhen x = three();
        int[] want = {0b110000, 0b001100, 0b000011, 0b100011};
        for (int what = 0; what < 4; what++) {
            Due.due("who(" + what + ")", x.who(what), want[what]);
        }
        Due.unchanged(x, () -> {
            Due.refused(x, "who(4)", Due.BAD, () -> x.who(4));
            Due.refused(x, "who(-1)", Due.BAD, () -> x.who(-1));
        });
    }

    private static void promise39Rich() {
        CorkSaysWhen x = three();
        Due.read(x, "has 0 999; has 1 0; has 2 50; has 3 50; has 4 998; has 5 0");
        Due.due("rich(0), as much", x.rich(0), 2);
        Due.due("rich(1), as much", x.rich(1), 2);
        Due.read(x, "has 3 51");
        Due.due("rich(0)", x.rich(0), 3);
        Due.due("rich(1)", x.rich(1), 2);
        Due.read(x, "has 3 49");
        Due.due("rich(0)", x.rich(0), 2);
        Due.due("rich(1)", x.rich(1), 3);
        CorkSaysWhen first = Due.of("heir 2 0 0; heir 2 0 0; year 21");
        first.years(1);
        Due.due("the first, rich(0)", first.rich(0), 0);
        Due.due("the first, rich(1)", first.rich(1), 0);
        CorkSaysWhen young = Due.of("heir 0 0 0; has 0 9");
        Due.due("nobody is OF AGE: rich(0)", young.rich(0), -1);
        Due.due("nobody is OF AGE: rich(1)", young.rich(1), -1);
        Due.due("NONE isn't refused", young.status(12), 0);
        Due.unchanged(x, () -> {
            Due.refused(x, "rich(2)", Due.BAD, () -> x.rich(2));
            Due.refused(x, "rich(-1)", Due.BAD, () -> x.rich(-1));
        });
    }

    private static void promise45Eldest() {
        CorkSaysWhen x = three();
        Due.due("eldest(0)", x.eldest(0), 5);
        Due.due("eldest(1), of several the first", x.eldest(1), 2);
        Due.due("eldest(2)", x.eldest(2), 1);
        CorkSaysWhen one = Due.of("heir 0 0 0");
        Due.due("eldest(1)", one.eldest(1), -1);
        Due.due("eldest(2)", one.eldest(2), -1);
        Due.due("eldest(0)", one.eldest(0), 0);
        Due.due("NONE isn't refused", one.status(12), 0);
        Due.unchanged(x, () -> {
            Due.refused(x, "eldest(3)", Due.BAD, () -> x.eldest(3));
            Due.refused(x, "eldest(-1)", Due.BAD, () -> x.eldest(-1));
        });
    }

    private static void promise46Leaves() {
        CorkSaysWhen x = Due.of("heir 0 0 0; child 0 0 0 0; child 0 0 0 0; child 0 0 0 1; child 0 0 50 0; has 0 101; has 1 8; has 4 7");
        Due.due("leaves(0, 0)", x.leaves(0, 0), 33);
        Due.due("leaves(0, 1)", x.leaves(0, 1), 2);
        Due.due("leaves(1, 0)", x.leaves(1, 0), 8);
        Due.due("leaves(1, 1)", x.leaves(1, 1), 0);
        Due.due("none FROM him: leaves(4, 0)", x.leaves(4, 0), 0);
        Due.due("none FROM him: leaves(4, 1)", x.leaves(4, 1), 7);
        x.tell(0, 9999);
        Due.due("STORE has no room", x.leaves(4, 1), 7);
        // In the YEAR 70 all but heir 4 die; of those FROM heir 0 he alone isn't DEAD then.
        x.tell(1, 70);
        x.years(1);
        Due.read(x, "has 0 31");
        Due.due("two of three are DEAD: leaves(0, 0)", x.leaves(0, 0), 31);
        Due.due("two of three are DEAD: leaves(0, 1)", x.leaves(0, 1), 0);
        Due.read(x, "has 1 31");
        Due.due("all FROM him are DEAD: leaves(1, 0)", x.leaves(1, 0), 0);
        Due.due("all FROM him are DEAD: leaves(1, 1)", x.leaves(1, 1), 31);
        Due.unchanged(x, () -> {
            Due.refused(x, "leaves(5, 0)", Due.BAD, () -> x.leaves(5, 0));
            Due.refused(x, "leaves(-1, 0)", Due.BAD, () -> x.leaves(-1, 0));
            Due.refused(x, "leaves(0, 2)", Due.BAD, () -> x.leaves(0, 2));
            Due.refused(x, "leaves(0, -1)", Due.BAD, () -> x.leaves(0, -1));
        });
    }

    private static void promise52OfKind() {
        CorkSaysWhen x = Due.of("heir 3 0 0; heir 3 0 0; heir 1 0 0; heir 5 0 0");
        int[] want = {0, 1, 0, 2, 0, 1};
        for (int kind = 0; kind < 6; kind++) {
            Due.due("ofKind(" + kind + ")", x.ofKind(kind), want[kind]);
        }
        Due.unchanged(x, () -> {
            Due.refused(x, "ofKind(6)", Due.BAD, () -> x.ofKind(6));
            Due.refused(x, "ofKind(-1)", Due.BAD, () -> x.ofKind(-1));
        });
    }
}
