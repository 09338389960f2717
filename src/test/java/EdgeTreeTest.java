/** The boundary cases of promises 26 to 29, 43, 44: a test for each sentence. */
public final class EdgeTreeTest {
    /** Ten, each FROM the one ahead of him. */
    private static final String LINE = "heir 0 0 0;child 0 0 0 0;child 0 0 0 1;child 0 0 0 2;child 0 0 0 3;"
        + "child 0 0 0 4;child 0 0 0 5;child 0 0 0 6;child 0 0 0 7;child 0 0 0 8";
    /** Nine FROM the first. */
    private static final String FAN = "heir 0 0 0" + ";child 0 0 0 0".repeat(9);
    /** 0: 1, 2; 1: 3; 2: 4; 5 is FROM NONE, with 6. */
    private static final String TWO_LINES = "heir 0 0 0; child 0 0 0 0; child 0 0 0 0; child 0 0 0 1; child 0 0 0 2; heir 0 0 0; child 0 0 0 5";

    public static void main(String[] args) {
        part();
        line();
        kin();
        under();
        steps();
        share();
        Due.end("EdgeTreeTest");
    }

    private static CorkSaysWhen dead() {
        CorkSaysWhen x = Due.of(TWO_LINES);
        x.tell(1, 70);
        x.years(1);
        Due.due("all are DEAD", x.who(2), 127);
        return x;
    }

    private static void part() {
        Due.edge("Promise 26: (so many-th of the whole is his; FROM NONE: how many there are such)", () -> {
            Due.due("alone", Due.of("heir 0 0 0").part(0), 1);
            CorkSaysWhen ten = Due.of("heir 0 0 0" + ";heir 0 0 0".repeat(9));
            Due.due("ten, the first", ten.part(0), 10);
            Due.due("ten, the last", ten.part(9), 10);
        });
        Due.edge("Promise 26: times how many there are FROM each one he is FROM, or that one is, and so on", () -> {
            CorkSaysWhen x = Due.of(TWO_LINES);
            int[] want = {2, 4, 4, 4, 4, 2, 2};
            for (int heir = 0; heir < 7; heir++) {
                Due.due("part(" + heir + ")", x.part(heir), want[heir]);
            }
            Due.due("the longest line", Due.of(LINE).part(9), 1);
            Due.due("nine", Due.of(FAN).part(9), 9);
            // Three FROM NONE, three FROM the first of them, and four FROM one of these.
            CorkSaysWhen most = Due.of("heir 0 0 0;heir 0 0 0;heir 0 0 0;child 0 0 0 0;child 0 0 0 0;child 0 0 0 0"
                + ";child 0 0 0 5;child 0 0 0 5;child 0 0 0 5;child 0 0 0 5");
            Due.due("the greatest there can be", most.part(9), 36);
        });
        Due.edge("Promise 26: how many there are, the DEAD too", () -> Due.due("part(3)", dead().part(3), 4));
        Due.edge("Promise 26: BAD", () -> {
            CorkSaysWhen x = Due.of(TWO_LINES);
            Due.bounds(x, "part(heir)", 0, 6, heir -> x.part(heir));
            CorkSaysWhen none = new CorkSaysWhen();
            Due.unchanged(none, () -> {
                Due.refused(none, "there is none", Due.BAD, () -> none.part(0));
            });
        });
    }

    private static void line() {
        Due.edge("Promise 27: how many generations one is from the first of his line (FROM NONE: 0)", () -> {
            CorkSaysWhen x = Due.of(LINE);
            for (int heir = 0; heir < 10; heir++) {
                Due.due("line(" + heir + ")", x.line(heir), heir);
            }
            Due.due("the first of another line", Due.of(TWO_LINES).line(5), 0);
        });
        Due.edge("Promise 27: BAD", () -> {
            CorkSaysWhen x = Due.of(TWO_LINES);
            Due.bounds(x, "line(heir)", 0, 6, heir -> x.line(heir));
            CorkSaysWhen none = new CorkSaysWhen();
            Due.unchanged(none, () -> {
                Due.refused(none, "there is none", Due.BAD, () -> none.line(0));
            });
        });
    }

    private static void kin() {
        Due.edge("Promise 28: the nearest one both are FROM", () -> {
            CorkSaysWhen x = Due.of(TWO_LINES);
            Due.due("of two FROM one", x.kin(1, 2), 0);
            Due.due("of two FROM two FROM one", x.kin(3, 4), 0);
            Due.due("of two in unlike generations", x.kin(1, 4), 0);
            Due.due("not the first of the line, if one is nearer", Due.of(LINE).kin(9, 8), 8);
        });
        Due.edge("Promise 28: or one of them is, or is", () -> {
            CorkSaysWhen x = Due.of(LINE);
            Due.due("the last from the first", x.kin(9, 0), 0);
            Due.due("the first from the last", x.kin(0, 9), 0);
            Due.due("of one with himself", x.kin(9, 9), 9);
            Due.due("of one FROM NONE with himself", x.kin(0, 0), 0);
        });
        Due.edge("Promise 28: NONE .. (NONE isn't refused.)", () -> {
            CorkSaysWhen x = Due.of(TWO_LINES);
            Due.due("of two FROM NONE", x.kin(0, 5), -1);
            Due.due("of two lines", x.kin(3, 6), -1);
            Due.due("nothing is refused", x.status(12) + x.status(15), 0);
        });
        Due.edge("Promise 28: BAD", () -> {
            CorkSaysWhen x = Due.of(TWO_LINES);
            Due.bounds(x, "kin(heir, 0)", 0, 6, heir -> x.kin(heir, 0));
            Due.bounds(x, "kin(0, other)", 0, 6, other -> x.kin(0, other));
        });
    }

    private static void under() {
        Due.edge("Promise 29: HEIRS (bits) FROM him, or from such", () -> {
            CorkSaysWhen x = Due.of(LINE);
            for (int heir = 0; heir < 10; heir++) {
                Due.due("under(" + heir + ")", x.under(heir), 1023 & -1 << heir + 1);
            }
            Due.due("nine FROM him", Due.of(FAN).under(0), 1022);
            Due.due("none, of a line of his own", Due.of(TWO_LINES).under(5), 1 << 6);
            Due.due("the DEAD too", dead().under(0), 0b11110);
        });
        Due.edge("Promise 29: BAD", () -> {
            CorkSaysWhen x = Due.of(TWO_LINES);
            Due.bounds(x, "under(heir)", 0, 6, heir -> x.under(heir));
        });
    }

    private static void steps() {
        Due.edge("Promise 43: (0: the same; from each to whom he is FROM is one)", () -> {
            CorkSaysWhen x = Due.of(LINE);
            Due.due("the same", x.steps(9, 9), 0);
            Due.due("the same", x.steps(0, 0), 0);
            Due.due("one up", x.steps(9, 8), 1);
            Due.due("one down", x.steps(8, 9), 1);
            Due.due("the most", x.steps(0, 9), 9);
            CorkSaysWhen y = Due.of(TWO_LINES);
            Due.due("up and down", y.steps(1, 2), 2);
            Due.due("two up and two down", y.steps(3, 4), 4);
            Due.due("two up and one down", y.steps(3, 2), 3);
        });
        Due.edge("Promise 43: NONE: they have no KIN .. (NONE isn't refused.)", () -> {
            CorkSaysWhen x = Due.of(TWO_LINES);
            Due.due("of two FROM NONE", x.steps(0, 5), -1);
            Due.due("of two lines", x.steps(6, 3), -1);
            Due.due("nothing is refused", x.status(12) + x.status(15), 0);
        });
        Due.edge("Promise 43: BAD", () -> {
            CorkSaysWhen x = Due.of(TWO_LINES);
            Due.bounds(x, "steps(heir, 0)", 0, 6, heir -> x.steps(heir, 0));
            Due.bounds(x, "steps(0, other)", 0, 6, other -> x.steps(0, other));
        });
    }

    private static void share() {
        Due.edge("Promise 44: n drops (0 to 9999) by PART of one (cut)", () -> {
            CorkSaysWhen x = Due.of(TWO_LINES);
            int[] drops = {0, 1, 3, 4, 7, 8, 9999};
            for (int n : drops) {
                Due.due("share(3, " + n + ")", x.share(3, n), n / 4);
            }
            Due.due("all is his", Due.of("heir 0 0 0").share(0, 9999), 9999);
        });
        Due.edge("Promise 44: BAD", () -> {
            CorkSaysWhen x = Due.of(TWO_LINES);
            Due.bounds(x, "share(heir, 5)", 0, 6, heir -> x.share(heir, 5));
            Due.bounds(x, "share(0, n)", 0, 9999, n -> x.share(0, n));
        });
    }
}
