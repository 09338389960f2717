/** The boundary cases that the terms name of SHELVES, and promises 1 to 8: a test for each sentence. */
public final class EdgeShelvesTest {
    public static void main(String[] args) {
        newObject();
        shelves();
        lowestBits();
        row();
        set();
        copy();
        copyRefuses();
        element();
        holds();
        show();
        says();
        Due.end("EdgeShelvesTest");
    }

    /** Lays a ROW of a SORT in SHELF s, whose elements are from first on. */
    private static void count(CorkSaysWhen x, int s, int sort, int n, int first) {
        x.row(s, sort, n);
        for (int i = 0; i < n; i++) {
            x.set(s, i, first + i);
        }
    }

    private static void elements(CorkSaysWhen x, int s, long... want) {
        for (int i = 0; i < want.length; i++) {
            Due.due("element(" + s + ", " + i + ")", x.element(s, i), want[i]);
        }
    }

    private static void newObject() {
        Due.edge("Promise 1: No HEIRS; SHELVES hold NOTHING", () -> {
            CorkSaysWhen x = new CorkSaysWhen();
            Due.due("HEIRS", x.status(0), 0);
            Due.due("SHELVES that hold something", x.status(9), 0);
            for (int s = 0; s < 8; s++) {
                Due.due("holds(" + s + ")", x.holds(s), -1);
            }
            for (int number = 0; number < 5; number++) {
                Due.due("REFUSALS", x.status(12 + number), 0);
            }
            Due.unchanged(x, () -> {
                Due.refused(x, "there is no first HEIR", Due.BAD, () -> x.heirOf(0, 0));
            });
        });
    }

    private static void shelves() {
        Due.edge("SHELVES 0 to 7 hold NOTHING (at first), a ROW, or an HEIR", () -> {
            CorkSaysWhen x = Due.of("heir 0 0 0");
            for (int s = 0; s < 8; s++) {
                Due.due("NOTHING", x.holds(s), -1);
                Due.due("a ROW", x.row(s, 4, 1) + x.holds(s), 5);
                Due.due("an HEIR", x.show(s, 0) + x.holds(s), 11);
                Due.due("NOTHING again", x.show(s, -1) + x.holds(s), 0);
                Due.due("a ROW again", x.row(s, 4, 1) + x.holds(s), 5);
            }
            Due.due("each holds its own", x.status(9), 8);
        });
        Due.edge("0 to 40 elements", () -> {
            CorkSaysWhen x = new CorkSaysWhen();
            x.row(0, 3, 40);
            Due.due("the 40th", x.set(0, 39, 7), 1);
            Due.unchanged(x, () -> {
                Due.refused(x, "the 41st", Due.BAD, () -> x.set(0, 40, 7));
            });
            x.row(1, 3, 0);
            Due.unchanged(x, () -> {
                Due.refused(x, "of none the first", Due.BAD, () -> x.set(1, 0, 7));
            });
            Due.due("a ROW of none is a ROW", x.holds(1), 3);
        });
        Due.edge("(0, or not so, at first)", () -> {
            CorkSaysWhen x = new CorkSaysWhen();
            for (int sort = 0; sort < 5; sort++) {
                count(x, 0, 3, 40, 1);
                x.row(0, sort, 40);
                for (int i = 0; i < 40; i++) {
                    Due.due("element(0, " + i + ")", x.element(0, i), 0);
                }
            }
        });
        Due.edge("(0, or not so, at first) of a longer ROW behind a shorter one", () -> {
            CorkSaysWhen x = new CorkSaysWhen();
            count(x, 0, 3, 40, 1);
            x.row(0, 3, 2);
            x.row(0, 3, 40);
            elements(x, 0, new long[40]);
        });
        Due.edge("told they are numbers (1, 0)", () -> {
            CorkSaysWhen x = new CorkSaysWhen();
            x.row(0, 4, 4);
            x.set(0, 0, 7);
            x.set(0, 1, -9);
            elements(x, 0, 1, 1, 0, 0);
            Due.due("THING 1 was there, THING 0 was not", x.was(0, 2, 0), 2);
        });
    }

    private static void kept(int sort, long[] put, long[] want) {
        CorkSaysWhen x = new CorkSaysWhen();
        x.row(3, sort, put.length);
        for (int i = 0; i < put.length; i++) {
            Due.due("set of " + put[i], x.set(3, i, put[i]), 1);
            Due.due("of " + put[i] + " is kept", x.element(3, i), want[i]);
        }
    }

    private static void lowestBits() {
        Due.edge("what is put in keeps its lowest bits: bytes", () ->
            kept(0, new long[] {127, 128, -128, -129, 255, 256, Long.MAX_VALUE, Long.MIN_VALUE},
                new long[] {127, -128, -128, 127, -1, 0, -1, 0}));
        Due.edge("what is put in keeps its lowest bits: shorts", () ->
            kept(1, new long[] {32767, 32768, -32768, -32769, 65535, 65536, Long.MAX_VALUE, Long.MIN_VALUE},
                new long[] {32767, -32768, -32768, 32767, -1, 0, -1, 0}));
        Due.edge("what is put in keeps its lowest bits: ints", () ->
            kept(2, new long[] {2147483647L, 2147483648L, -2147483648L, -2147483649L, 4294967295L, 4294967296L, Long.MAX_VALUE, Long.MIN_VALUE},
                new long[] {2147483647L, -2147483648L, -2147483648L, 2147483647L, -1, 0, -1, 0}));
        Due.edge("what is put in keeps its lowest bits: longs keep all", () -> {
            long[] all = {Long.MAX_VALUE, Long.MIN_VALUE, -1, 0, 4294967296L};
            kept(3, all, all);
        });
        Due.edge("of booleans: whether it is not 0", () ->
            kept(4, new long[] {0, 1, 2, -1, 256, 4294967296L, Long.MIN_VALUE, 0}, new long[] {0, 1, 1, 1, 1, 1, 1, 0}));
    }

    private static void row() {
        Due.edge("Promise 2: BAD SHELF", () -> {
            CorkSaysWhen x = new CorkSaysWhen();
            Due.bounds(x, "row(s, 0, 1)", 0, 7, s -> x.row(s, 0, 1));
            Due.due("the last SHELF", x.holds(7), 0);
        });
        Due.edge("Promise 2: BAD sort, n", () -> {
            CorkSaysWhen x = new CorkSaysWhen();
            Due.bounds(x, "row(1, sort, 1)", 0, 4, sort -> x.row(1, sort, 1));
            Due.due("the last SORT", x.holds(1), 4);
            Due.bounds(x, "row(2, 3, n)", 0, 40, n -> x.row(2, 3, n));
            Due.due("the most elements", x.set(2, 39, 1), 1);
        });
        Due.edge("Promise 2: holds a new ROW: 1", () -> {
            CorkSaysWhen x = Due.of("heir 0 0 0");
            x.show(0, 0);
            Due.due("instead of an HEIR", x.row(0, 1, 0), 1);
            Due.due("instead of an HEIR", x.holds(0), 1);
            Due.due("instead of a ROW", x.row(0, 2, 0), 1);
            Due.due("instead of a ROW", x.holds(0), 2);
        });
        Due.edge("Promise 2: a refused one leaves the ROW there was", () -> {
            CorkSaysWhen x = new CorkSaysWhen();
            count(x, 0, 2, 3, 5);
            Due.unchanged(x, () -> {
                Due.refused(x, "row(0, 5, 3)", Due.BAD, () -> x.row(0, 5, 3));
                Due.refused(x, "row(0, 2, 41)", Due.BAD, () -> x.row(0, 2, 41));
            });
            elements(x, 0, 5, 6, 7);
        });
    }

    private static void set() {
        Due.edge("Promise 3: BAD SHELF; OTHER; NOTHING; BAD i", () -> {
            CorkSaysWhen x = Due.of("heir 0 0 0");
            count(x, 0, 3, 3, 5);
            x.show(1, 0);
            Due.unchanged(x, () -> {
                Due.refused(x, "BAD SHELF", Due.BAD, () -> x.set(-1, 0, 9));
                Due.refused(x, "BAD SHELF", Due.BAD, () -> x.set(8, 0, 9));
                Due.refused(x, "OTHER is ahead of BAD i", Due.OTHER, () -> x.set(1, -1, 9));
                Due.refused(x, "NOTHING is ahead of BAD i", Due.NOTHING, () -> x.set(2, 40, 9));
                Due.refused(x, "BAD i", Due.BAD, () -> x.set(0, 3, 9));
            });
        });
        Due.edge("Promise 3: BAD i", () -> {
            CorkSaysWhen x = new CorkSaysWhen();
            count(x, 0, 3, 3, 5);
            Due.bounds(x, "set(0, i, 8)", 0, 2, i -> x.set(0, i, 8));
            elements(x, 0, 8, 6, 8, 0);
            count(x, 1, 3, 40, 5);
            x.row(1, 3, 2);
            Due.unchanged(x, () -> {
                Due.refused(x, "beyond a ROW that is shorter now", Due.BAD, () -> x.set(1, 2, 9));
            });
        });
    }

    private static void copy() {
        Due.edge("Promise 4: n elements .. from place i on come to places j on: n", () -> {
            CorkSaysWhen x = new CorkSaysWhen();
            count(x, 0, 2, 4, 10);
            count(x, 1, 2, 5, 20);
            Due.due("all of the shorter", x.copy(0, 1, 0, 1, 4), 4);
            elements(x, 1, 20, 10, 11, 12, 13);
            Due.due("the first of the longer", x.copy(1, 0, 0, 3, 1), 1);
            elements(x, 0, 10, 11, 12, 20);
            Due.due("none", x.copy(0, 1, 0, 0, 0), 0);
            elements(x, 1, 20, 10, 11, 12, 13);
        });
        Due.edge("Promise 4: n elements, 40 and none at most and least", () -> {
            CorkSaysWhen x = new CorkSaysWhen();
            count(x, 0, 1, 40, 100);
            x.row(1, 1, 40);
            Due.due("40", x.copy(0, 1, 0, 0, 40), 40);
            Due.due("the first", x.element(1, 0), 100);
            Due.due("the last", x.element(1, 39), 139);
            Due.due("the last alone", x.copy(0, 1, 39, 0, 1), 1);
            Due.due("the last alone", x.element(1, 0), 139);
            x.row(2, 1, 0);
            Due.due("none of a ROW of none", x.copy(2, 1, 0, 0, 0), 0);
            Due.due("none to a ROW of none", x.copy(1, 2, 0, 0, 0), 0);
        });
        Due.edge("Promise 4: (as they were)", () -> {
            CorkSaysWhen x = new CorkSaysWhen();
            count(x, 0, 3, 5, 0);
            Due.due("upward", x.copy(0, 0, 0, 1, 4), 4);
            elements(x, 0, 0, 0, 1, 2, 3);
            count(x, 0, 3, 5, 0);
            Due.due("downward", x.copy(0, 0, 1, 0, 4), 4);
            elements(x, 0, 1, 2, 3, 4, 4);
            Due.due("to where they are", x.copy(0, 0, 0, 0, 5), 5);
            elements(x, 0, 1, 2, 3, 4, 4);
        });
    }

    private static void copyRefuses() {
        Due.edge("Promise 4: BAD SHELVES", () -> {
            CorkSaysWhen x = Due.of("heir 0 0 0");
            count(x, 0, 2, 3, 10);
            count(x, 7, 2, 3, 10);
            x.show(1, 0);
            Due.unchanged(x, () -> {
                Due.refused(x, "p -1", Due.BAD, () -> x.copy(-1, 0, 0, 0, 1));
                Due.refused(x, "p 8", Due.BAD, () -> x.copy(8, 0, 0, 0, 1));
                Due.refused(x, "q -1", Due.BAD, () -> x.copy(0, -1, 0, 0, 1));
                Due.refused(x, "q 8", Due.BAD, () -> x.copy(0, 8, 0, 0, 1));
                Due.refused(x, "BAD q is ahead of OTHER p", Due.BAD, () -> x.copy(1, 8, 0, 0, 1));
            });
            Due.due("the first and the last SHELF", x.copy(0, 7, 0, 0, 3) + x.copy(7, 0, 0, 0, 3), 6);
        });
        Due.edge("Promise 4: OTHER (also ROWS of two SORTS, if both hold something)", () -> {
            for (int sort = 0; sort < 5; sort++) {
                CorkSaysWhen x = Due.of("heir 0 0 0");
                x.row(0, sort, 3);
                x.show(1, 0);
                x.row(2, (sort + 1) % 5, 3);
                Due.unchanged(x, () -> {
                    Due.refused(x, "to an HEIR", Due.OTHER, () -> x.copy(0, 1, 0, 0, 1));
                    Due.refused(x, "from an HEIR", Due.OTHER, () -> x.copy(1, 0, 0, 0, 1));
                    Due.refused(x, "two SORTS, even for no element", Due.OTHER, () -> x.copy(0, 2, 0, 0, 0));
                });
            }
        });
        Due.edge("Promise 4: OTHER .. if both hold something; NOTHING", () -> {
            CorkSaysWhen x = Due.of("heir 0 0 0");
            x.row(0, 4, 3);
            x.show(1, 0);
            Due.unchanged(x, () -> {
                Due.refused(x, "to NOTHING", Due.NOTHING, () -> x.copy(0, 2, 0, 0, 1));
                Due.refused(x, "from NOTHING", Due.NOTHING, () -> x.copy(2, 0, 0, 0, 1));
                Due.refused(x, "both NOTHING", Due.NOTHING, () -> x.copy(2, 3, 0, 0, 1));
                Due.refused(x, "an HEIR to NOTHING", Due.OTHER, () -> x.copy(1, 2, 0, 0, 1));
                Due.refused(x, "NOTHING to an HEIR", Due.OTHER, () -> x.copy(2, 1, 0, 0, 1));
                Due.refused(x, "NOTHING is ahead of BAD others", Due.NOTHING, () -> x.copy(0, 2, -1, 0, 1));
                Due.refused(x, "OTHER is ahead of BAD others", Due.OTHER, () -> x.copy(0, 1, 0, 0, -1));
            });
        });
        Due.edge("Promise 4: BAD the others: i", () -> {
            CorkSaysWhen x = new CorkSaysWhen();
            count(x, 0, 2, 4, 10);
            count(x, 1, 2, 9, 20);
            Due.bounds(x, "copy(0, 1, i, 0, 2)", 0, 2, i -> x.copy(0, 1, i, 0, 2));
        });
        Due.edge("Promise 4: BAD the others: j", () -> {
            CorkSaysWhen x = new CorkSaysWhen();
            count(x, 0, 2, 4, 10);
            count(x, 1, 2, 9, 20);
            Due.bounds(x, "copy(1, 0, 0, j, 2)", 0, 2, j -> x.copy(1, 0, 0, j, 2));
        });
        Due.edge("Promise 4: BAD the others: n", () -> {
            CorkSaysWhen x = new CorkSaysWhen();
            count(x, 0, 2, 4, 10);
            count(x, 1, 2, 9, 20);
            Due.bounds(x, "copy(0, 1, 1, 0, n)", 0, 3, n -> x.copy(0, 1, 1, 0, n));
            Due.bounds(x, "copy(1, 0, 0, 1, n)", 0, 3, n -> x.copy(1, 0, 0, 1, n));
        });
    }

    private static void element() {
        Due.edge("Promise 5: 0: none, no ROW (nothing is refused)", () -> {
            CorkSaysWhen x = Due.of("heir 0 0 0");
            count(x, 0, 3, 40, 1);
            x.show(1, 0);
            count(x, 2, 3, 40, 1);
            x.row(2, 3, 2);
            x.set(2, 1, 9);
            count(x, 3, 3, 40, 1);
            x.show(3, 0);
            count(x, 4, 3, 40, 1);
            x.show(4, -1);
            Due.due("the first", x.element(0, 0), 1);
            Due.due("the last", x.element(0, 39), 40);
            Due.due("the last of two", x.element(2, 1), 9);
            int[][] none = {{0, -1}, {0, 40}, {0, Integer.MAX_VALUE}, {0, Integer.MIN_VALUE}, {2, 2}, {1, 0}, {3, 0},
                {4, 0}, {7, 0}, {-1, 0}, {8, 0}, {Integer.MIN_VALUE, 0}, {Integer.MAX_VALUE, 0}};
            for (int[] call : none) {
                Due.due("element(" + call[0] + ", " + call[1] + ")", x.element(call[0], call[1]), 0);
            }
            for (int number = 0; number < 5; number++) {
                Due.due("nothing is refused", x.status(12 + number), 0);
            }
        });
    }

    private static void holds() {
        Due.edge("Promise 6: NONE NOTHING, no SHELF", () -> {
            CorkSaysWhen x = new CorkSaysWhen();
            x.row(0, 4, 1);
            x.row(7, 4, 1);
            int[][] want = {{-1, -1}, {0, 4}, {1, -1}, {6, -1}, {7, 4}, {8, -1}, {Integer.MIN_VALUE, -1}, {Integer.MAX_VALUE, -1}};
            for (int[] held : want) {
                Due.due("holds(" + held[0] + ")", x.holds(held[0]), held[1]);
            }
            for (int number = 0; number < 5; number++) {
                Due.due("nothing is refused", x.status(12 + number), 0);
            }
        });
        Due.edge("Promise 6: 0 to 4 a ROW by its SORT", () -> {
            CorkSaysWhen x = new CorkSaysWhen();
            for (int sort = 0; sort < 5; sort++) {
                x.row(3, sort, 0);
                Due.due("holds(3)", x.holds(3), sort);
            }
        });
        Due.edge("Promise 6: 10 and the number of an HEIR", () -> {
            CorkSaysWhen x = Due.of("heir 0 0 0" + ";heir 0 0 0".repeat(9));
            for (int heir = 0; heir < 10; heir++) {
                x.show(5, heir);
                Due.due("holds(5)", x.holds(5), 10 + heir);
            }
        });
    }

    private static void show() {
        Due.edge("Promise 7: BAD", () -> {
            CorkSaysWhen x = Due.of("heir 0 0 0; heir 0 0 0");
            Due.bounds(x, "show(s, 1)", 0, 7, s -> x.show(s, 1));
            Due.bounds(x, "show(1, heir)", -1, 1, heir -> x.show(1, heir));
            Due.due("the last SHELF", x.holds(7), 11);
            Due.due("the last HEIR", x.holds(1), 11);
            CorkSaysWhen none = new CorkSaysWhen();
            Due.unchanged(none, () -> {
                Due.refused(none, "there is no HEIR", Due.BAD, () -> none.show(0, 0));
                Due.refused(none, "BAD SHELF for NOTHING", Due.BAD, () -> none.show(8, -1));
            });
        });
        Due.edge("Promise 7: or NOTHING (heir NONE): 1", () -> {
            CorkSaysWhen x = Due.of("heir 0 0 0");
            Due.due("of NOTHING", x.show(0, -1), 1);
            x.show(0, 0);
            Due.due("of an HEIR", x.show(0, -1), 1);
            Due.due("holds(0)", x.holds(0), -1);
            x.row(0, 3, 3);
            Due.due("of a ROW", x.show(0, -1), 1);
            Due.due("holds(0)", x.holds(0), -1);
            Due.due("status(9)", x.status(9), 0);
        });
        Due.edge("Promise 7: SHELF s holds an HEIR: any, the DEAD too, and one on several", () -> {
            CorkSaysWhen x = Due.of("heir 0 0 0; year 70");
            x.years(1);
            Due.due("he is DEAD", x.heirOf(0, 6), 2);
            Due.due("show(0, 0)", x.show(0, 0), 1);
            Due.due("show(1, 0)", x.show(1, 0), 1);
            Due.due("status(9)", x.status(9), 2);
        });
    }

    private static void says() {
        Due.edge("Promise 8: HEIR what he HAS; .. what he would USE of 100 drops this YEAR, by his own KIND", () -> {
            // Each KIND, as itself and as all that it is under.
            int[][] want = {{7, 0, 0, 0, 0, 0}, {7, 50, 0, 0, 0, 0}, {7, 0, 9, 0, 0, 0}, {7, 59, 0, 59, 0, 0}, {7, 0, 9, 0, 9, 0}, {7, 0, 0, 0, 0, 11}};
            for (int kind = 0; kind < 6; kind++) {
                CorkSaysWhen x = Due.of("heir " + kind + " 9 0; has 0 7");
                x.show(0, 0);
                for (int as = 0; as < 6; as++) {
                    Due.due("a " + kind + " as a " + as, x.says(0, as), want[kind][as] == 0 ? Due.OTHER : want[kind][as]);
                }
            }
        });
        Due.edge("Promise 8: this YEAR", () -> {
            CorkSaysWhen x = Due.of("heir 4 9 0; year 999");
            x.show(0, 0);
            Due.due("a MISER in an odd YEAR", x.says(0, 4), 0);
            Due.due("a MISER as a SAVER in an odd YEAR", x.says(0, 2), 0);
            x.tell(1, 998);
            Due.due("a MISER in an even YEAR", x.says(0, 4), 9);
            Due.due("a MISER as a SAVER in an even YEAR", x.says(0, 2), 9);
        });
        Due.edge("Promise 8: BAD SHELF, KIND", () -> {
            CorkSaysWhen x = Due.of("heir 5 0 0");
            x.show(0, 0);
            x.show(7, 0);
            Due.bounds(x, "says(s, 5)", 0, 7, s -> x.says(s, 5));
            Due.bounds(x, "says(0, kind)", 0, 5, kind -> x.says(0, kind));
            x.row(1, 0, 1);
            Due.unchanged(x, () -> {
                Due.refused(x, "BAD KIND is ahead of OTHER", Due.BAD, () -> x.says(1, 6));
                Due.refused(x, "BAD KIND is ahead of NOTHING", Due.BAD, () -> x.says(2, -1));
            });
        });
        Due.edge("Promise 8: OTHER (also if he is of no such KIND nor of one under it); NOTHING", () -> {
            CorkSaysWhen x = Due.of("heir 1 0 0; heir 2 0 0");
            x.row(0, 0, 40);
            x.show(1, 0);
            x.show(2, 1);
            Due.unchanged(x, () -> {
                Due.refused(x, "a ROW", Due.OTHER, () -> x.says(0, 0));
                Due.refused(x, "a SPENDER as a RIDER, which is under it", Due.OTHER, () -> x.says(1, 3));
                Due.refused(x, "a SAVER as a MISER, which is under it", Due.OTHER, () -> x.says(2, 4));
                Due.refused(x, "NOTHING", Due.NOTHING, () -> x.says(3, 0));
            });
        });
    }
}
