/** Promises 1 to 8: a new object, row, set, copy, element, holds, show, says. */
public final class ShelvesTest {
    public static void main(String[] args) {
        promise1NewObject();
        promise2Row();
        promise3Set();
        promise3SetKeepsLowestBits();
        promise4Copy();
        promise4CopyRefuses();
        promise5Element();
        promise6Holds();
        promise7Show();
        promise8Says();
        promise8SaysRefuses();
        Due.end("ShelvesTest");
    }

    private static void promise1NewObject() {
        CorkSaysWhen x = new CorkSaysWhen();
        int[] want = {0, 660, 0, 0, 0, 0, 0, 0, 1, 0, -1, -1, 0, 0, 0, 0, 0, -1};
        for (int what = 0; what < want.length; what++) {
            Due.due("new: status(" + what + ")", x.status(what), want[what]);
        }
        for (int s = 0; s < 8; s++) {
            Due.due("new: holds(" + s + ")", x.holds(s), -1);
        }
        for (int thing = 0; thing < 8; thing++) {
            Due.due("new: joyOf(" + thing + ")", x.joyOf(thing), thing + 1);
        }
        Due.due("new: who(0)", x.who(0), 0);
        Due.due("new: wipe()", x.wipe(), 0);
        Due.due("NONE", CorkSaysWhen.NONE, -1);
    }

    private static void promise2Row() {
        CorkSaysWhen x = new CorkSaysWhen();
        for (int sort = 0; sort < 5; sort++) {
            Due.due("row(7, " + sort + ", 40)", x.row(7, sort, 40), 1);
            Due.due("holds(7)", x.holds(7), sort);
            Due.due("set(7, 39, 1)", x.set(7, 39, 1), 1);
            Due.due("element(7, 39)", x.element(7, 39), 1);
            Due.due("element(7, 40)", x.element(7, 40), 0);
            x.set(7, 0, 1);
            Due.due("row(7, sort, 40) again", x.row(7, sort, 40), 1);
            for (int i = 0; i < 40; i++) {
                Due.due("element(7, " + i + ") of a new ROW", x.element(7, i), 0);
            }
        }
        Due.due("row(0, 0, 0)", x.row(0, 0, 0), 1);
        Due.due("status(9)", x.status(9), 2);
        Due.unchanged(x, () -> {
            Due.refused(x, "set in a ROW of 0", Due.BAD, () -> x.set(0, 0, 1));
            Due.refused(x, "row(-1, 0, 0)", Due.BAD, () -> x.row(-1, 0, 0));
            Due.refused(x, "row(8, 0, 0)", Due.BAD, () -> x.row(8, 0, 0));
            Due.refused(x, "row(7, -1, 0)", Due.BAD, () -> x.row(7, -1, 0));
            Due.refused(x, "row(7, 5, 0)", Due.BAD, () -> x.row(7, 5, 0));
            Due.refused(x, "row(7, 0, -1)", Due.BAD, () -> x.row(7, 0, -1));
            Due.refused(x, "row(7, 0, 41)", Due.BAD, () -> x.row(7, 0, 41));
        });
        x.born(0, 0, 0, -1);
        x.show(3, 0);
        Due.due("row over an HEIR", x.row(3, 2, 1), 1);
        Due.due("holds(3)", x.holds(3), 2);
    }

    private static void promise3Set() {
        CorkSaysWhen x = Due.of("heir 0 0 0");
        x.row(0, 3, 3);
        x.show(1, 0);
        Due.due("set(0, 0, 5)", x.set(0, 0, 5), 1);
        Due.due("set(0, 2, -7)", x.set(0, 2, -7), 1);
        Due.due("element(0, 0)", x.element(0, 0), 5);
        Due.due("element(0, 1)", x.element(0, 1), 0);
        Due.due("element(0, 2)", x.element(0, 2), -7);
        Due.unchanged(x, () -> {
            Due.refused(x, "set(-1, 0, 0)", Due.BAD, () -> x.set(-1, 0, 0));
            Due.refused(x, "set(8, 0, 0)", Due.BAD, () -> x.set(8, 0, 0));
            Due.refused(x, "set(1, -1, 0)", Due.OTHER, () -> x.set(1, -1, 0));
            Due.refused(x, "set(2, -1, 0)", Due.NOTHING, () -> x.set(2, -1, 0));
            Due.refused(x, "set(0, -1, 9)", Due.BAD, () -> x.set(0, -1, 9));
            Due.refused(x, "set(0, 3, 9)", Due.BAD, () -> x.set(0, 3, 9));
            Due.refused(x, "set(0, 2147483647, 9)", Due.BAD, () -> x.set(0, Integer.MAX_VALUE, 9));
        });
    }

    private static void promise3SetKeepsLowestBits() {
        long[] put = {128, -129, 32768, 2147483648L, 4294967296L, Long.MIN_VALUE, 256, 65536, -1, 127, 32767};
        long[][] kept = {
            {-128, 127, 0, 0, 0, 0, 0, 0, -1, 127, -1},
            {128, -129, -32768, 0, 0, 0, 256, 0, -1, 127, 32767},
            {128, -129, 32768, -2147483648L, 0, 0, 256, 65536, -1, 127, 32767},
            put,
            {1, 1, 1, 1, 1, 1, 1, 1, 1, 1, 1}};
        CorkSaysWhen x = new CorkSaysWhen();
        for (int sort = 0; sort < 5; sort++) {
            x.row(4, sort, put.length);
            for (int i = 0; i < put.length; i++) {
                x.set(4, i, put[i]);
                Due.due("sort " + sort + " of " + put[i], x.element(4, i), kept[sort][i]);
            }
        }
        x.set(4, 0, 0);
        Due.due("a boolean of 0", x.element(4, 0), 0);
    }

    private static void row(CorkSaysWhen x, int s, int n) {
        x.row(s, 2, n);
        for (int i = 0; i < n; i++) {
            x.set(s, i, 100 * s + i);
        }
    }

    private static void elements(CorkSaysWhen x, int s, long... want) {
        for (int i = 0; i < want.length; i++) {
            Due.due("element(" + s + ", " + i + ")", x.element(s, i), want[i]);
        }
    }

    private static void promise4Copy() {
        CorkSaysWhen x = new CorkSaysWhen();
        row(x, 0, 6);
        row(x, 1, 4);
        Due.due("copy(0, 1, 3, 1, 3)", x.copy(0, 1, 3, 1, 3), 3);
        elements(x, 1, 100, 3, 4, 5);
        elements(x, 0, 0, 1, 2, 3, 4, 5);
        Due.due("copy(0, 0, 0, 1, 5)", x.copy(0, 0, 0, 1, 5), 5);
        elements(x, 0, 0, 0, 1, 2, 3, 4);
        row(x, 0, 6);
        Due.due("copy(0, 0, 2, 0, 4)", x.copy(0, 0, 2, 0, 4), 4);
        elements(x, 0, 2, 3, 4, 5, 4, 5);
        Due.due("copy(0, 1, 0, 0, 0)", x.copy(0, 1, 0, 0, 0), 0);
        Due.due("copy(1, 1, 0, 0, 4)", x.copy(1, 1, 0, 0, 4), 4);
        elements(x, 1, 100, 3, 4, 5);
        row(x, 2, 40);
        row(x, 3, 40);
        Due.due("copy(2, 3, 0, 0, 40)", x.copy(2, 3, 0, 0, 40), 40);
        Due.due("element(3, 39)", x.element(3, 39), 239);
        Due.due("set(2, 0, 7)", x.set(2, 0, 7), 1);
        Due.due("a copy is its own: element(3, 0)", x.element(3, 0), 200);
    }

    private static void promise4CopyRefuses() {
        CorkSaysWhen x = Due.of("heir 0 0 0");
        row(x, 0, 3);
        row(x, 1, 5);
        x.row(2, 1, 3);
        x.show(3, 0);
        Due.unchanged(x, () -> {
            Due.refused(x, "copy(-1, 3, ..)", Due.BAD, () -> x.copy(-1, 3, 0, 0, 1));
            Due.refused(x, "copy(8, 0, ..)", Due.BAD, () -> x.copy(8, 0, 0, 0, 1));
            Due.refused(x, "copy(3, 8, ..)", Due.BAD, () -> x.copy(3, 8, 0, 0, 1));
            Due.refused(x, "copy(4, -1, ..)", Due.BAD, () -> x.copy(4, -1, 0, 0, 1));
            Due.refused(x, "copy(3, 0, ..)", Due.OTHER, () -> x.copy(3, 0, 0, 0, 9));
            Due.refused(x, "copy(0, 3, ..)", Due.OTHER, () -> x.copy(0, 3, 0, 0, 9));
            Due.refused(x, "copy(3, 4, ..): OTHER is ahead of NOTHING", Due.OTHER, () -> x.copy(3, 4, 0, 0, 1));
            Due.refused(x, "copy(4, 3, ..): OTHER is ahead of NOTHING", Due.OTHER, () -> x.copy(4, 3, 0, 0, 1));
            Due.refused(x, "copy(0, 2, ..): two SORTS", Due.OTHER, () -> x.copy(0, 2, -1, 0, 1));
            Due.refused(x, "copy(0, 4, ..)", Due.NOTHING, () -> x.copy(0, 4, -1, 0, 1));
            Due.refused(x, "copy(4, 2, ..)", Due.NOTHING, () -> x.copy(4, 2, 0, 0, 99));
            Due.refused(x, "copy(0, 1, -1, 0, 1)", Due.BAD, () -> x.copy(0, 1, -1, 0, 1));
            Due.refused(x, "copy(0, 1, 0, -1, 1)", Due.BAD, () -> x.copy(0, 1, 0, -1, 1));
            Due.refused(x, "copy(0, 1, 0, 0, -1)", Due.BAD, () -> x.copy(0, 1, 0, 0, -1));
            Due.refused(x, "copy(0, 1, 1, 0, 3)", Due.BAD, () -> x.copy(0, 1, 1, 0, 3));
            Due.refused(x, "copy(1, 0, 0, 1, 3)", Due.BAD, () -> x.copy(1, 0, 0, 1, 3));
            Due.refused(x, "copy(0, 1, max, 0, 1)", Due.BAD, () -> x.copy(0, 1, Integer.MAX_VALUE, 0, 1));
            Due.refused(x, "copy(0, 1, 0, max, 1)", Due.BAD, () -> x.copy(0, 1, 0, Integer.MAX_VALUE, 1));
            Due.refused(x, "copy(0, 1, 1, 0, max)", Due.BAD, () -> x.copy(0, 1, 1, 0, Integer.MAX_VALUE));
            Due.refused(x, "copy(0, 1, 0, 0, min)", Due.BAD, () -> x.copy(0, 1, 0, 0, Integer.MIN_VALUE));
        });
    }

    private static void promise5Element() {
        CorkSaysWhen x = Due.of("heir 0 0 0");
        row(x, 1, 2);
        x.show(2, 0);
        Due.due("element(1, 1)", x.element(1, 1), 101);
        int[][] none = {{1, 2}, {1, -1}, {1, Integer.MIN_VALUE}, {0, 0}, {2, 0}, {-1, 0}, {8, 0}};
        for (int[] call : none) {
            Due.due("element(" + call[0] + ", " + call[1] + ")", x.element(call[0], call[1]), 0);
        }
        for (int what = 12; what <= 16; what++) {
            Due.due("nothing is refused: status(" + what + ")", x.status(what), 0);
        }
        x.row(1, 3, 1);
        Due.due("element beyond a shorter ROW", x.element(1, 1), 0);
    }

    private static void promise6Holds() {
        CorkSaysWhen x = Due.of("heir 0 0 0; heir 0 0 0; heir 0 0 0");
        x.row(0, 4, 0);
        x.show(7, 2);
        Due.due("holds(0)", x.holds(0), 4);
        Due.due("holds(7)", x.holds(7), 12);
        Due.due("holds(1)", x.holds(1), -1);
        Due.due("holds(-1)", x.holds(-1), -1);
        Due.due("holds(8)", x.holds(8), -1);
        Due.due("status(12)", x.status(12), 0);
    }

    private static void promise7Show() {
        CorkSaysWhen x = Due.of("heir 0 0 0; heir 0 0 0");
        Due.due("show(0, 0)", x.show(0, 0), 1);
        Due.due("show(7, 1)", x.show(7, 1), 1);
        Due.due("holds(0)", x.holds(0), 10);
        Due.due("holds(7)", x.holds(7), 11);
        Due.due("status(9)", x.status(9), 2);
        Due.due("show(0, NONE)", x.show(0, -1), 1);
        Due.due("holds(0)", x.holds(0), -1);
        x.row(1, 0, 1);
        Due.due("show(1, 1)", x.show(1, 1), 1);
        Due.due("holds(1)", x.holds(1), 11);
        x.row(1, 0, 1);
        Due.due("show(1, NONE)", x.show(1, -1), 1);
        Due.due("holds(1)", x.holds(1), -1);
        Due.unchanged(x, () -> {
            Due.refused(x, "show(-1, 0)", Due.BAD, () -> x.show(-1, 0));
            Due.refused(x, "show(8, 0)", Due.BAD, () -> x.show(8, 0));
            Due.refused(x, "show(0, 2)", Due.BAD, () -> x.show(0, 2));
            Due.refused(x, "show(0, -2)", Due.BAD, () -> x.show(0, -2));
        });
    }

    private static void promise8Says() {
        CorkSaysWhen x = Due.of("heir 0 1 0; heir 1 2 0; heir 2 3 0; heir 3 4 0; heir 4 5 0; heir 5 6 0; has 3 77; has 0 5");
        long[] own = {0, 50, 3, 54, 5, 11};
        long[] has = {5, 0, 0, 77, 0, 0};
        for (int i = 0; i < 6; i++) {
            x.show(i, i);
            Due.due("says(" + i + ", HEIR)", x.says(i, 0), has[i]);
            if (i > 0) {
                Due.due("says(" + i + ", " + i + ")", x.says(i, i), own[i]);
            }
        }
        Due.due("a RIDER as a SPENDER", x.says(3, 1), 54);
        Due.due("a MISER as a SAVER", x.says(4, 2), 5);
        x.tell(1, 1);
        Due.due("a MISER in an odd YEAR", x.says(4, 4), 0);
        Due.due("a MISER as a SAVER in an odd YEAR", x.says(4, 2), 0);
        Due.due("a SAVER in an odd YEAR", x.says(2, 2), 3);
    }

    private static void promise8SaysRefuses() {
        String[] fits = {"0", "01", "02", "013", "024", "05"};
        for (int kind = 0; kind < 6; kind++) {
            saysOther(kind, fits[kind]);
        }
        CorkSaysWhen x = Due.of("heir 0 1 0");
        x.row(1, 0, 3);
        Due.unchanged(x, () -> {
            Due.refused(x, "says(1, 0): a ROW", Due.OTHER, () -> x.says(1, 0));
            Due.refused(x, "says(2, 0)", Due.NOTHING, () -> x.says(2, 0));
            Due.refused(x, "says(-1, 0)", Due.BAD, () -> x.says(-1, 0));
            Due.refused(x, "says(8, 0)", Due.BAD, () -> x.says(8, 0));
            Due.refused(x, "says(1, 6)", Due.BAD, () -> x.says(1, 6));
            Due.refused(x, "says(2, -1)", Due.BAD, () -> x.says(2, -1));
        });
    }

    /** An HEIR of the KIND says nothing as one of another than those. */
    private static void saysOther(int kind, String those) {
        CorkSaysWhen x = Due.of("heir " + kind + " 1 0");
        x.show(0, 0);
        Due.unchanged(x, () -> {
            for (int i = 0; i < 6; i++) {
                int as = i;
                if (those.indexOf('0' + as) < 0) {
                    Due.refused(x, "says: a " + kind + " as a " + as, Due.OTHER, () -> x.says(0, as));
                }
            }
        });
    }
}
