/** The boundary cases of promises 9, 10, 14 to 17, 38, 39, 45, 46, 52: a test for each sentence. */
public final class EdgeStandingTest {
    /** In the YEAR 75 heirs 0 and 1 have just died, 2 and 3 have come OF AGE, 4 and 5 are YOUNG. */
    private static final String SIX = "heir 2 0 5; heir 2 0 3; child 2 0 20 0; child 2 0 20 1; child 2 0 90 2; heir 2 0 80; year 75";

    public static void main(String[] args) {
        tell();
        joy();
        heirOf();
        uses();
        gets();
        who();
        rich();
        eldest();
        leaves();
        ofKind();
        Due.end("EdgeStandingTest");
    }

    private static CorkSaysWhen six() {
        CorkSaysWhen x = Due.of(SIX);
        x.years(1);
        return x;
    }

    private static CorkSaysWhen ten() {
        return Due.of("heir 0 0 0" + ";heir 0 0 0".repeat(9));
    }

    private static void tell() {
        Due.edge("Promise 9: STORE (what 0; 0 to 9999), YEAR (1), RULE (2) becomes v: what it was", () -> {
            CorkSaysWhen x = new CorkSaysWhen();
            Due.due("STORE", x.tell(0, 9999), 660);
            Due.due("YEAR", x.tell(1, 999), 0);
            Due.due("RULE", x.tell(2, 2), 0);
            Due.due("STORE", x.tell(0, 0), 9999);
            Due.due("YEAR", x.tell(1, 0), 999);
            Due.due("RULE", x.tell(2, 0), 2);
            Due.due("all are 0", x.status(1) + x.status(2) + x.status(3), 0);
        });
        Due.edge("Promise 9: BAD", () -> {
            CorkSaysWhen x = new CorkSaysWhen();
            Due.bounds(x, "tell(what, 1)", 0, 2, what -> x.tell(what, 1));
            Due.bounds(x, "tell(0, v)", 0, 9999, v -> x.tell(0, v));
            Due.bounds(x, "tell(1, v)", 0, 999, v -> x.tell(1, v));
            Due.bounds(x, "tell(2, v)", 0, 2, v -> x.tell(2, v));
            Due.unchanged(x, () -> {
                Due.refused(x, "a STORE is no YEAR", Due.BAD, () -> x.tell(1, 9999));
                Due.refused(x, "a YEAR is no RULE", Due.BAD, () -> x.tell(2, 999));
            });
        });
    }

    private static void joy() {
        Due.edge("Promise 10: JOY of a THING becomes v: what it was. BAD", () -> {
            CorkSaysWhen x = new CorkSaysWhen();
            Due.bounds(x, "joy(thing, 4)", 0, 7, thing -> x.joy(thing, 4));
            Due.bounds(x, "joy(2, v)", 0, 9, v -> x.joy(2, v));
            Due.due("what the first was", x.joy(0, 9), 4);
            Due.due("what it was", x.joy(2, 0), 9);
            Due.due("what it was", x.joy(2, 0), 0);
        });
        Due.edge("Promise 15: JOY of a THING. BAD", () -> {
            CorkSaysWhen x = new CorkSaysWhen();
            Due.bounds(x, "joyOf(thing)", 0, 7, thing -> x.joyOf(thing));
            Due.due("the first", x.joyOf(0), 1);
            Due.due("the last", x.joyOf(7), 8);
        });
    }

    private static void heirOf() {
        Due.edge("Promise 14: FROM (2; NONE) .. (NONE isn't refused.)", () -> {
            CorkSaysWhen x = Due.of("heir 0 0 0; child 0 0 0 0");
            Due.due("FROM NONE", x.heirOf(0, 2), -1);
            Due.due("FROM the first", x.heirOf(1, 2), 0);
            Due.due("NONE isn't refused", x.status(12), 0);
        });
        Due.edge("Promise 14: AGE (7; it may be below 0)", () -> {
            CorkSaysWhen x = Due.of("heir 0 0 1; heir 0 0 0");
            Due.due("-1", x.heirOf(0, 7), -1);
            Due.due("0", x.heirOf(1, 7), 0);
            Due.due("-1 isn't refused", x.status(12), 0);
        });
        Due.edge("Promise 14: BAD", () -> {
            CorkSaysWhen x = Due.of("heir 0 0 0; heir 0 0 0");
            Due.bounds(x, "heirOf(heir, 0)", 0, 1, heir -> x.heirOf(heir, 0));
            Due.bounds(x, "heirOf(0, what)", 0, 7, what -> x.heirOf(0, what));
            CorkSaysWhen all = ten();
            Due.bounds(all, "heirOf(heir, 4)", 0, 9, heir -> all.heirOf(heir, 4));
            CorkSaysWhen none = new CorkSaysWhen();
            Due.unchanged(none, () -> {
                Due.refused(none, "there is none", Due.BAD, () -> none.heirOf(0, 0));
            });
        });
    }

    private static void uses() {
        Due.edge("Promise 16: n drops (0 to 9999)", () -> {
            CorkSaysWhen x = Due.of("heir 0 9 0; heir 1 9 0; heir 2 9 0; heir 3 9 0; heir 4 9 0; heir 5 9 0");
            int[] most = {1000, 5000, 9, 5009, 9, 1001};
            for (int heir = 0; heir < 6; heir++) {
                Due.due("of none", x.uses(heir, 0), 0);
                Due.due("of 1", x.uses(heir, 1), 1);
                Due.due("of 9999", x.uses(heir, 9999), most[heir]);
            }
            Due.due("what he HAS is nothing to it", x.heirOf(1, 4), 0);
        });
        Due.edge("Promise 16: this YEAR", () -> {
            CorkSaysWhen x = Due.of("heir 4 9 0; year 999");
            Due.due("odd", x.uses(0, 100), 0);
            x.tell(1, 0);
            Due.due("even", x.uses(0, 100), 9);
        });
        Due.edge("Promise 16: BAD", () -> {
            CorkSaysWhen x = Due.of("heir 0 9 0; heir 0 0 0");
            Due.bounds(x, "uses(heir, 5)", 0, 1, heir -> x.uses(heir, 5));
            Due.bounds(x, "uses(0, n)", 0, 9999, n -> x.uses(0, n));
        });
    }

    private static void gets() {
        Due.edge("Promise 17: What one would get by RULE, coming OF AGE now", () -> {
            CorkSaysWhen x = Due.of("heir 0 0 999; heir 0 0 999; heir 0 0 999; store 59");
            Due.due("thimble, STORE at most", x.gets(0), 59);
            x.tell(2, 1);
            Due.due("a tenth (upward)", x.gets(0), 6);
            x.tell(2, 2);
            Due.due("even (cut)", x.gets(2), 19);
            x.tell(0, 0);
            for (int rule = 0; rule < 3; rule++) {
                x.tell(2, rule);
                Due.due("of none", x.gets(0), 0);
            }
            x.tell(0, 2);
            Due.due("fewer than YOUNG ones", x.gets(0), 0);
        });
        Due.edge("Promise 17: STUCK: he isn't YOUNG", () -> {
            CorkSaysWhen x = six();
            Due.unchanged(x, () -> {
                Due.refused(x, "DEAD", Due.STUCK, () -> x.gets(0));
                Due.refused(x, "OF AGE", Due.STUCK, () -> x.gets(2));
            });
            Due.due("YOUNG", x.gets(4), 60);
        });
        Due.edge("Promise 17: BAD", () -> {
            CorkSaysWhen x = Due.of("heir 0 9 0; heir 0 0 0");
            Due.bounds(x, "gets(heir)", 0, 1, heir -> x.gets(heir));
            CorkSaysWhen none = new CorkSaysWhen();
            Due.unchanged(none, () -> {
                Due.refused(none, "there is none", Due.BAD, () -> none.gets(0));
            });
        });
    }

    private static void who() {
        Due.edge("Promise 38: HEIRS (bits) who are YOUNG (what 0), OF AGE (1), DEAD (2), FROM NONE (3)", () -> {
            CorkSaysWhen x = six();
            int[] want = {0b110000, 0b001100, 0b000011, 0b100011};
            CorkSaysWhen all = ten();
            int[] wantAll = {1023, 0, 0, 1023};
            CorkSaysWhen none = new CorkSaysWhen();
            for (int what = 0; what < 4; what++) {
                Due.due("of six: who(" + what + ")", x.who(what), want[what]);
                Due.due("of ten: who(" + what + ")", all.who(what), wantAll[what]);
                Due.due("of none: who(" + what + ")", none.who(what), 0);
            }
        });
        Due.edge("Promise 38: BAD", () -> {
            CorkSaysWhen x = six();
            Due.bounds(x, "who(what)", 0, 3, what -> x.who(what));
        });
    }

    private static void rich() {
        Due.edge("Promise 39: who HAS most (what 0), least (1) of those OF AGE", () -> {
            CorkSaysWhen x = six();
            Due.read(x, "has 0 999; has 1 0; has 2 50; has 3 51; has 4 998; has 5 0");
            Due.due("most", x.rich(0), 3);
            Due.due("least", x.rich(1), 2);
            Due.read(x, "has 3 49");
            Due.due("most", x.rich(0), 2);
            Due.due("least", x.rich(1), 3);
            Due.read(x, "has 3 0");
            Due.due("none at all is least", x.rich(1), 3);
        });
        Due.edge("Promise 39: of several the first", () -> {
            CorkSaysWhen x = six();
            Due.read(x, "has 2 50; has 3 50");
            Due.due("most", x.rich(0), 2);
            Due.due("least", x.rich(1), 2);
            Due.read(x, "has 2 0; has 3 0");
            Due.due("most is 0", x.rich(0), 2);
            Due.due("least is 0", x.rich(1), 2);
            CorkSaysWhen ten = ten();
            ten.tell(1, 21);
            ten.tell(0, 9999);
            ten.years(1);
            Due.due("most, of ten", ten.rich(0), 0);
            Due.due("least, of ten", ten.rich(1), 0);
            Due.read(ten, "has 9 55");
            Due.due("most, of ten: the last", ten.rich(0), 9);
            Due.read(ten, "has 9 53");
            Due.due("least, of ten: the last", ten.rich(1), 9);
        });
        Due.edge("Promise 39: NONE: nobody is .. (NONE isn't refused.)", () -> {
            CorkSaysWhen x = Due.of("heir 0 0 0; has 0 9; heir 0 0 0; year 70");
            Due.due("all are YOUNG", x.rich(0) + x.rich(1), -2);
            x.years(1);
            Due.due("all are DEAD", x.rich(0) + x.rich(1), -2);
            Due.due("nothing is refused", x.status(12) + x.status(15), 0);
            CorkSaysWhen none = new CorkSaysWhen();
            Due.due("no HEIRS", none.rich(0) + none.rich(1), -2);
            Due.due("nothing is refused", none.status(12) + none.status(15), 0);
        });
        Due.edge("Promise 39: BAD", () -> {
            CorkSaysWhen x = six();
            Due.bounds(x, "rich(what)", 0, 1, what -> x.rich(what));
        });
    }

    private static void eldest() {
        Due.edge("Promise 45: The one BORN first of those who are YOUNG (what 0), OF AGE (1), DEAD (2)", () -> {
            CorkSaysWhen x = six();
            Due.due("YOUNG", x.eldest(0), 5);
            Due.due("OF AGE", x.eldest(1), 2);
            Due.due("DEAD", x.eldest(2), 1);
        });
        Due.edge("Promise 45: of several the first", () -> {
            CorkSaysWhen x = Due.of("heir 0 0 9; heir 0 0 8; heir 0 0 8; heir 0 0 9");
            Due.due("of two", x.eldest(0), 1);
            Due.due("of ten", ten().eldest(0), 0);
        });
        Due.edge("Promise 45: NONE .. (NONE isn't refused.)", () -> {
            CorkSaysWhen x = Due.of("heir 0 0 0; year 70");
            Due.due("nobody is OF AGE, or DEAD", x.eldest(1) + x.eldest(2), -2);
            x.years(1);
            Due.due("nobody is YOUNG, or OF AGE", x.eldest(0) + x.eldest(1), -2);
            Due.due("nothing is refused", x.status(12) + x.status(15), 0);
            CorkSaysWhen none = new CorkSaysWhen();
            Due.due("no HEIRS", none.eldest(0) + none.eldest(1) + none.eldest(2), -3);
            Due.due("nothing is refused", none.status(12) + none.status(15), 0);
        });
        Due.edge("Promise 45: BAD", () -> {
            CorkSaysWhen x = six();
            Due.bounds(x, "eldest(what)", 0, 2, what -> x.eldest(what));
        });
    }

    private static void leaves() {
        Due.edge("Promise 46: what each FROM him would get (what 0), what STORE would (1)", () -> {
            int[] has = {0, 1, 2, 3, 4, 5, 999};
            for (int n : has) {
                CorkSaysWhen x = Due.of("heir 0 0 0; child 0 0 0 0; child 0 0 0 0; child 0 0 0 0; child 0 0 0 1; has 0 " + n);
                Due.due("each of three, of " + n, x.leaves(0, 0), n / 3);
                Due.due("STORE, of " + n, x.leaves(0, 1), n % 3);
            }
        });
        Due.edge("Promise 46: there is none FROM him", () -> {
            CorkSaysWhen x = Due.of("heir 0 0 0; heir 0 0 0; has 0 7");
            Due.due("each", x.leaves(0, 0), 0);
            Due.due("STORE", x.leaves(0, 1), 7);
        });
        Due.edge("Promise 46: those FROM him who aren't DEAD", () -> {
            CorkSaysWhen x = Due.of("heir 2 0 60; child 2 0 0 0; child 2 0 90 0; heir 2 0 60; child 2 0 0 3; year 70");
            x.years(1);
            Due.read(x, "has 0 31; has 3 31");
            Due.due("one of two is DEAD: the other", x.leaves(0, 0), 31);
            Due.due("one of two is DEAD: STORE", x.leaves(0, 1), 0);
            Due.due("all are DEAD: each", x.leaves(3, 0), 0);
            Due.due("all are DEAD: STORE", x.leaves(3, 1), 31);
        });
        Due.edge("Promise 46: (1; it may have room or not)", () -> {
            CorkSaysWhen x = Due.of("heir 0 0 0; has 0 7");
            x.tell(0, 9999);
            Due.due("no room", x.leaves(0, 1), 7);
            x.tell(0, 9993);
            Due.due("just room", x.leaves(0, 1), 7);
            x.tell(0, 9994);
            Due.due("room for less", x.leaves(0, 1), 7);
        });
        Due.edge("Promise 46: BAD", () -> {
            CorkSaysWhen x = Due.of("heir 0 0 0; heir 0 0 0");
            Due.bounds(x, "leaves(heir, 0)", 0, 1, heir -> x.leaves(heir, 0));
            Due.bounds(x, "leaves(0, what)", 0, 1, what -> x.leaves(0, what));
        });
    }

    private static void ofKind() {
        Due.edge("Promise 52: How many HEIRS are of just a KIND", () -> {
            CorkSaysWhen x = Due.of("heir 3 0 0; heir 3 0 0; heir 4 0 0; heir 5 0 0");
            int[] want = {0, 0, 0, 2, 1, 1};
            for (int kind = 0; kind < 6; kind++) {
                Due.due("ofKind(" + kind + ")", x.ofKind(kind), want[kind]);
            }
            Due.due("all ten", ten().ofKind(0), 10);
            Due.due("no HEIRS", new CorkSaysWhen().ofKind(0), 0);
        });
        Due.edge("Promise 52: of the DEAD too", () -> {
            CorkSaysWhen x = six();
            Due.due("ofKind(2)", x.ofKind(2), 6);
        });
        Due.edge("Promise 52: BAD", () -> {
            CorkSaysWhen x = six();
            Due.bounds(x, "ofKind(kind)", 0, 5, kind -> x.ofKind(kind));
        });
    }
}
