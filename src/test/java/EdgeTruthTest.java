/** The boundary cases of promises 54 to 61: a test for each sentence. */
public final class EdgeTruthTest {
    private static final String TEN = "heir 0 0 0" + ";heir 0 0 0".repeat(9);

    public static void main(String[] args) {
        born();
        gives();
        years();
        drawn();
        births();
        seed();
        image();
        back();
        status();
        Due.end("EdgeTruthTest");
    }

    private static void born() {
        Due.edge("Promise 54: (from NONE: FROM NONE): the number", () -> {
            CorkSaysWhen x = new CorkSaysWhen();
            Due.due("the first", x.born(0, 0, 0, -1), 0);
            Due.due("FROM NONE", x.heirOf(0, 2), -1);
            Due.due("the second", x.born(0, 0, 0, 0), 1);
            Due.due("FROM the first", x.heirOf(1, 2), 0);
            for (int heir = 2; heir < 10; heir++) {
                Due.due("the number", x.born(0, 0, 0, heir - 1), heir);
            }
        });
        Due.edge("Promise 54: BAD", () -> {
            CorkSaysWhen x = new CorkSaysWhen();
            Due.bounds(x, "born(kind, 0, 0, NONE)", 0, 5, kind -> x.born(kind, 0, 0, -1));
            Due.bounds(x, "born(0, a, 0, NONE)", 0, 9, a -> x.born(0, a, 0, -1));
            CorkSaysWhen y = new CorkSaysWhen();
            Due.bounds(y, "born(0, 0, year, NONE)", 0, 999, year -> y.born(0, 0, year, -1));
            Due.bounds(y, "born(0, 0, 0, from)", -1, 1, from -> y.born(0, 0, 0, from));
        });
        Due.edge("Promise 54: BAD; FULL", () -> {
            CorkSaysWhen x = Due.of(TEN.substring(11));
            Due.due("the last that there is room for", x.born(5, 9, 999, 8), 9);
            Due.unchanged(x, () -> {
                Due.refused(x, "the eleventh", Due.FULL, () -> x.born(0, 0, 0, -1));
                Due.refused(x, "BAD kind is ahead of FULL", Due.BAD, () -> x.born(6, 0, 0, -1));
                Due.refused(x, "BAD from is ahead of FULL", Due.BAD, () -> x.born(0, 0, 0, 10));
            });
        });
    }

    private static void gives() {
        Due.edge("Promise 55: One gives another n drops (0 to 9999) in truth: what he HAS then", () -> {
            CorkSaysWhen x = Due.of("heir 0 0 0; heir 0 0 0; has 0 30");
            Due.due("none", x.gives(0, 1, 0), 30);
            Due.due("some", x.gives(0, 1, 10), 20);
            Due.due("all", x.gives(0, 1, 20), 0);
            Due.due("none of none", x.gives(0, 1, 0), 0);
            Due.due("the other HAS them", x.heirOf(1, 4), 30);
            Due.due("the other way", x.gives(1, 0, 30), 0);
            Due.due("USED", x.status(5), 0);
        });
        Due.edge("Promise 55: n drops (0 to 9999), the most", () -> {
            CorkSaysWhen x = Due.of("heir 2 0 0; heir 2 0 0; year 21; rule 2");
            x.tell(0, 9999);
            x.years(1);
            Due.due("half of STORE", x.heirOf(0, 4) + x.heirOf(1, 4), 9999);
            Due.due("one HAS all", x.gives(0, 1, 4999), 0);
            Due.due("the most", x.gives(1, 0, 9999), 0);
            Due.due("the other HAS them", x.heirOf(0, 4), 9999);
            Due.unchanged(x, () -> {
                Due.refused(x, "more than may be", Due.BAD, () -> x.gives(0, 1, 10000));
            });
        });
        Due.edge("Promise 55: BAD: also the same", () -> {
            CorkSaysWhen x = Due.of("heir 0 0 0; heir 0 0 0; has 0 5");
            Due.unchanged(x, () -> {
                Due.refused(x, "the same", Due.BAD, () -> x.gives(0, 0, 5));
                Due.refused(x, "the same, none", Due.BAD, () -> x.gives(1, 1, 0));
                Due.refused(x, "the same, too many", Due.BAD, () -> x.gives(1, 1, 1));
            });
        });
        Due.edge("Promise 55: BAD", () -> {
            CorkSaysWhen x = Due.of("heir 0 0 0; heir 0 0 0; heir 0 0 0; has 1 5");
            Due.bounds(x, "gives(1, other, 0)", 0, 2, other -> x.gives(1, other, 0));
            Due.bounds(x, "gives(heir, 1, 0)", 0, 2, heir -> x.gives(heir, 1, 0));
            CorkSaysWhen rich = Due.of("heir 2 0 0; heir 2 0 0; year 21; rule 2");
            rich.tell(0, 9999);
            rich.years(1);
            rich.gives(0, 1, 4999);
            Due.bounds(rich, "gives(1, 0, n)", 0, 9999, n -> rich.gives(1, 0, n));
        });
        Due.edge("Promise 55: STUCK: he hasn't so many, one is DEAD", () -> {
            CorkSaysWhen x = Due.of("heir 0 0 60; heir 0 0 0; year 70; has 0 5");
            x.years(1);
            Due.read(x, "has 1 9");
            Due.unchanged(x, () -> {
                Due.refused(x, "one more than he HAS, to the DEAD", Due.STUCK, () -> x.gives(0, 1, 6));
                Due.refused(x, "from the DEAD", Due.STUCK, () -> x.gives(1, 0, 9));
                Due.refused(x, "to the DEAD", Due.STUCK, () -> x.gives(0, 1, 5));
                Due.refused(x, "none, from the DEAD", Due.STUCK, () -> x.gives(1, 0, 0));
                Due.refused(x, "none, to the DEAD", Due.STUCK, () -> x.gives(0, 1, 0));
                Due.refused(x, "BAD n is ahead of STUCK", Due.BAD, () -> x.gives(1, 0, -1));
            });
            CorkSaysWhen y = Due.of("heir 0 0 60; heir 0 0 0; has 0 5");
            Due.unchanged(y, () -> {
                Due.refused(y, "one more than he HAS", Due.STUCK, () -> y.gives(0, 1, 6));
            });
            Due.due("all that he HAS", y.gives(0, 1, 5), 0);
            Due.unchanged(y, () -> {
                Due.refused(y, "one of none", Due.STUCK, () -> y.gives(0, 1, 1));
            });
        });
    }

    private static void years() {
        Due.edge("Promise 56: YEARS pass in truth (n 1 to 60): STORE", () -> {
            CorkSaysWhen x = Due.of("heir 2 0 0; year 20");
            Due.due("one", x.years(1), 660);
            Due.due("one more", x.years(1), 600);
            Due.due("60", x.years(60), 660);
            Due.due("YEAR", x.status(2), 82);
            CorkSaysWhen late = Due.of("heir 2 0 38");
            Due.due("the 60th YEAR is one of them", late.years(60), 600);
            Due.due("the 61st isn't", Due.of("heir 2 0 39").years(60), 660);
        });
        Due.edge("Promise 56: BAD", () -> {
            CorkSaysWhen x = Due.of("heir 0 0 0");
            Due.bounds(x, "years(n)", 1, 60, n -> x.years(n));
            Due.due("YEAR", x.status(2), 61);
        });
    }

    private static void drawn() {
        Due.edge("Promise 57: YEARS by draws (n 1 to 60): how much was USED", () -> {
            // The shared tests say of a new object that 173 are USED in the YEARS 60 to 119.
            CorkSaysWhen x = new CorkSaysWhen();
            x.years(60);
            Due.due("in 60 YEARS", x.drawn(60), 173);
            CorkSaysWhen y = new CorkSaysWhen();
            y.years(60);
            int used = 0;
            for (int year = 0; year < 60; year++) {
                used += y.drawn(1);
            }
            Due.due("by one YEAR and one", used, 173);
            Due.same("and all is as it is behind 60", Due.all(y), Due.all(x));
        });
        Due.edge("Promise 57: how much all USED together in them", () -> {
            CorkSaysWhen x = Due.of("heir 2 9 0; heir 2 5 0; year 21");
            x.years(1);
            Due.due("USED so far", x.status(5), 14);
            Due.due("USED in one more", x.drawn(1), 14);
            Due.due("USED in all", x.status(5), 28);
        });
        Due.edge("Promise 57: BAD", () -> {
            CorkSaysWhen x = Due.of("heir 0 0 0");
            Due.bounds(x, "drawn(n)", 1, 60, n -> x.drawn(n));
            Due.due("YEAR", x.status(2), 61);
        });
    }

    private static int next(int seed) {
        return seed * 1103515245 + 12345;
    }

    /** A SEED from which the next DRAW below 4 is 0 (or isn't). */
    private static int seedFor(boolean birth, int start) {
        for (int seed = start; ; seed++) {
            if ((next(seed) >>> 16) % 4 == 0 == birth) {
                return seed;
            }
        }
    }

    private static void births() {
        Due.edge("Promise 57: a DRAW below 4: if it is 0 .. a child is born", () -> {
            CorkSaysWhen x = new CorkSaysWhen();
            int seed = seedFor(false, 1);
            x.seed(seed);
            x.drawn(1);
            Due.due("it isn't 0: HEIRS", x.status(0), 0);
            Due.due("it isn't 0: one DRAW", x.status(8), next(seed));
        });
        Due.edge("Promise 57: FROM one of HEIRS (.. NONE, if there are none: no DRAW), BORN this YEAR", () -> {
            CorkSaysWhen x = new CorkSaysWhen();
            x.tell(1, 999);
            int seed = seedFor(true, 1);
            x.seed(seed);
            x.drawn(1);
            int kind = next(next(seed));
            Due.due("KIND", x.heirOf(0, 0), (kind >>> 16) % 6);
            Due.due("a", x.heirOf(0, 1), (next(kind) >>> 16) % 10);
            Due.due("FROM", x.heirOf(0, 2), -1);
            Due.due("BORN", x.heirOf(0, 3), 999);
            Due.due("three DRAWS", x.status(8), next(kind));
        });
        Due.edge("Promise 57: FROM one of HEIRS (a DRAW below how many)", () -> {
            for (int many = 1; many <= 9; many++) {
                CorkSaysWhen x = Due.of(TEN.substring(0, 11 * many - 1));
                int seed = seedFor(true, 1000 * many);
                x.seed(seed);
                x.drawn(1);
                int from = next(next(next(next(seed))));
                Due.due("HEIRS", x.status(0), many + 1);
                Due.due("FROM", x.heirOf(many, 2), (from >>> 16) % many);
                Due.due("four DRAWS", x.status(8), from);
            }
        });
        Due.edge("Promise 57: and there is room", () -> {
            CorkSaysWhen x = Due.of(TEN);
            int seed = seedFor(true, 1);
            x.seed(seed);
            x.drawn(1);
            Due.due("HEIRS", x.status(0), 10);
            Due.due("one DRAW", x.status(8), next(seed));
            Due.due("nothing is refused", x.status(16), 0);
        });
        Due.edge("Promise 57: then a YEAR", () -> {
            CorkSaysWhen x = new CorkSaysWhen();
            x.seed(seedFor(true, 1));
            x.drawn(1);
            Due.due("BORN ahead of it", x.heirOf(0, 3), 0);
            Due.due("AGE behind it", x.heirOf(0, 7), 1);
        });
        Due.edge("Promise 57: SEED becomes SEED times 1103515245, and 12345 (an int, wrapping); its upper 16 bits, no sign, modulo n", () -> {
            int[] seeds = {0, 1, -1, Integer.MIN_VALUE, Integer.MAX_VALUE, 2, 3, 4, -5, 65536};
            for (int seed : seeds) {
                CorkSaysWhen x = Due.of(TEN);
                x.seed(seed);
                x.drawn(1);
                Due.due("from SEED " + seed, x.status(8), (int) (seed * 1103515245L + 12345L));
            }
            CorkSaysWhen below0 = new CorkSaysWhen();
            int seed = 1;
            while (next(seed) >= 0 || (next(seed) >>> 16) % 4 != 0 || next(next(seed)) >= 0 || (next(next(seed)) >>> 16) % 6 == 0) {
                seed++;
            }
            below0.seed(seed);
            below0.drawn(1);
            Due.due("below 0: HEIRS", below0.status(0), 1);
            Due.due("below 0: KIND", below0.heirOf(0, 0), ((next(next(seed)) >> 16) + 65536) % 6);
        });
    }

    private static void seed() {
        Due.edge("Promise 58: SEED (1 at first) becomes v: the one ahead", () -> {
            CorkSaysWhen x = new CorkSaysWhen();
            Due.due("at first", x.status(8), 1);
            int[] seeds = {Integer.MIN_VALUE, Integer.MAX_VALUE, 0, -1, -1002};
            int ahead = 1;
            for (int seed : seeds) {
                Due.due("the one ahead", x.seed(seed), ahead);
                Due.due("SEED", x.status(8), seed);
                ahead = seed;
            }
            Due.due("nothing is refused", x.status(12), 0);
        });
    }

    private static void image() {
        Due.edge("Promise 59: All is kept, but THE TAPE, SHELVES and REFUSALS: 1", () -> {
            CorkSaysWhen x = Due.of("heir 1 2 3; child 2 3 4 0; has 0 9; store 77; year 30; rule 1; joy 0 9; joy 7 0");
            x.years(2);
            x.seed(55);
            String kept = Due.all(x);
            Due.due("image()", x.image(), 1);
            Due.same("nothing is changed", Due.all(x), kept);
            Due.read(x, "heir 0 0 0; has 1 7; store 0; year 0; rule 0; joy 0 0; joy 7 9");
            x.drawn(60);
            Due.due("back()", x.back(), 1);
            Due.same("all of it", Due.all(x), kept);
        });
        Due.edge("Promise 59: of a new object", () -> {
            CorkSaysWhen x = new CorkSaysWhen();
            String kept = Due.all(x);
            x.image();
            Due.read(x, TEN);
            x.years(60);
            x.back();
            Due.same("no HEIRS", Due.all(x), kept);
        });
        Due.edge("Promise 59: the later image", () -> {
            CorkSaysWhen x = new CorkSaysWhen();
            x.image();
            x.born(5, 0, 0, -1);
            Due.due("image() again", x.image(), 1);
            x.born(4, 0, 0, -1);
            x.back();
            Due.due("HEIRS", x.status(0), 1);
        });
    }

    private static void back() {
        Due.edge("Promise 60: STUCK: nothing was", () -> {
            CorkSaysWhen x = new CorkSaysWhen();
            Due.unchanged(x, () -> {
                Due.refused(x, "back()", Due.STUCK, () -> x.back());
            });
            x.image();
            x.tell(0, 1);
            Due.due("something is", x.back(), 1);
            Due.due("STORE", x.status(1), 660);
            x.tell(0, 2);
            Due.due("and is so again", x.back(), 1);
            Due.due("STORE", x.status(1), 660);
        });
        Due.edge("Promise 60: All is again as it was kept: who is born then has nothing of one there was", () -> {
            CorkSaysWhen x = new CorkSaysWhen();
            x.image();
            Due.read(x, "heir 1 9 0; year 70");
            x.years(1);
            Due.read(x, "has 0 9");
            Due.due("he was DEAD", x.heirOf(0, 6), 2);
            x.back();
            x.born(5, 8, 7, -1);
            int[] anew = {5, 8, -1, 7, 0, 0, 0, -7};
            for (int what = 0; what < 8; what++) {
                Due.due("heirOf(0, " + what + ")", x.heirOf(0, what), anew[what]);
            }
        });
        Due.edge("Promise 60: but THE TAPE, SHELVES and REFUSALS", () -> {
            CorkSaysWhen x = new CorkSaysWhen();
            x.image();
            Due.feed(x, "year");
            x.row(7, 3, 40);
            x.set(7, 39, 9);
            x.tell(3, 0);
            x.back();
            Due.due("THE TAPE", x.status(7), 4);
            Due.due("a ROW", x.element(7, 39), 9);
            Due.due("REFUSALS", x.status(12), 1);
            CorkSaysWhen y = new CorkSaysWhen();
            Due.feed(y, "year");
            y.row(0, 0, 1);
            y.tell(3, 0);
            y.image();
            y.wipe();
            y.show(0, -1);
            y.back();
            Due.due("THE TAPE isn't kept", y.status(7), 0);
            Due.due("SHELVES aren't kept", y.status(9), 0);
            Due.due("REFUSALS aren't kept", y.status(12), 1);
        });
        Due.edge("Promise 60: (SHELVES with HEIRS hold those of the same numbers, or NOTHING)", () -> {
            CorkSaysWhen x = Due.of("heir 1 0 0; heir 2 0 0");
            x.image();
            Due.read(x, "heir 3 0 0" + ";heir 3 0 0".repeat(7));
            for (int s = 0; s < 8; s++) {
                x.show(s, 9 - s);
            }
            x.show(3, 0);
            x.show(5, 1);
            x.back();
            int[] want = {-1, -1, -1, 10, -1, 11, -1, -1};
            for (int s = 0; s < 8; s++) {
                Due.due("holds(" + s + ")", x.holds(s), want[s]);
            }
            Due.due("SHELVES that hold something", x.status(9), 2);
            Due.due("the first that is born behind it", x.born(5, 0, 0, -1), 2);
            Due.due("isn't shown", x.holds(2), -1);
            Due.due("the last there was is", x.says(5, 2), 0);
        });
    }

    private static void status() {
        Due.edge("Promise 61: HEIRS (0) .. SHELVES that hold something (9): at first and at the most", () -> {
            CorkSaysWhen x = new CorkSaysWhen();
            int[] first = {0, 660, 0, 0, 0, 0, 0, 0, 1, 0};
            for (int what = 0; what < 10; what++) {
                Due.due("at first: status(" + what + ")", x.status(what), first[what]);
            }
            Due.read(x, TEN);
            x.tell(0, 9999);
            x.tell(1, 21);
            x.tell(2, 2);
            x.years(1);
            x.tell(0, 9999);
            x.tell(1, 999);
            x.seed(Integer.MIN_VALUE);
            for (int s = 0; s < 8; s++) {
                x.show(s, s);
            }
            Due.feed(x, " ".repeat(250));
            // Of 9999 the first got 999 (cut), each other one 1000; each has USED 100.
            int[] most = {10, 9999, 999, 2, 10, 1000, 8999, 250, Integer.MIN_VALUE, 8};
            for (int what = 0; what < 10; what++) {
                Due.due("at the most: status(" + what + ")", x.status(what), most[what]);
            }
        });
        Due.edge("Promise 61: 12 to 16: REFUSALS -1002 to -1006", () -> {
            CorkSaysWhen x = new CorkSaysWhen();
            for (int i = 0; i < 5; i++) {
                x.joyOf(-1);
            }
            for (int i = 0; i < 4; i++) {
                x.row(0, 0, 0);
                x.says(0, 0);
            }
            for (int i = 0; i < 3; i++) {
                x.says(1, 0);
            }
            x.spared();
            x.back();
            Due.feed(x, " ".repeat(250));
            x.feed(0);
            int[] want = {5, 4, 3, 2, 1};
            for (int i = 0; i < 5; i++) {
                Due.due("status(" + (12 + i) + ")", x.status(12 + i), want[i]);
            }
        });
        Due.edge("Promise 61: NONE another what", () -> {
            CorkSaysWhen x = new CorkSaysWhen();
            x.joyOf(-1);
            for (int what : new int[] {-1, 10, 11, 17, Integer.MIN_VALUE, Integer.MAX_VALUE, Integer.MIN_VALUE + 12}) {
                Due.due("status(" + what + ")", x.status(what), -1);
            }
            Due.due("nothing is refused", x.status(12), 1);
        });
        Due.edge("Promise 61: all USED together (5), all they HAVE together (6): the DEAD and the YOUNG too", () -> {
            CorkSaysWhen x = Due.of("heir 2 9 0; heir 2 7 49; heir 2 0 90; year 70; has 2 5");
            x.years(1);
            Due.due("how many are OF AGE", x.status(4), 1);
            Due.due("USED", x.status(5), 16);
            Due.due("HAVE", x.status(6), 60 - 7 + 5);
        });
    }
}
