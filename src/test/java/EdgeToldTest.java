/** The boundary cases of promises 30 to 36, 50, 51, 53: a test for each sentence. */
public final class EdgeToldTest {
    public static void main(String[] args) {
        twos();
        twosRefused("Promise 30", (x, s, n) -> x.was(s, n, 0));
        twosRefused("Promise 31", (x, s, n) -> x.mayBe(s, n, 0));
        twosRefused("Promise 50", (x, s, n) -> x.likely(s, n, 0));
        twosRefused("Promise 51", (x, s, n) -> x.ask(s, n));
        was();
        mayBe();
        likely();
        ask();
        made();
        best();
        last();
        odds();
        fits();
        judge();
        Due.end("EdgeToldTest");
    }

    private static CorkSaysWhen told(long... twos) {
        CorkSaysWhen x = new CorkSaysWhen();
        Due.lay(x, 0, twos);
        return x;
    }

    /** One of the calls that are told by the first n twos of the ROW in SHELF s. */
    private interface Twos {
        int ask(CorkSaysWhen x, int s, int n);
    }

    private static void refused(CorkSaysWhen x, String why, int number, Twos call, int s, int n) {
        Due.refused(x, why, number, () -> call.ask(x, s, n));
    }

    private static void twos() {
        Due.edge("by the first n twos (0 to 20) of the ROW", () -> {
            CorkSaysWhen x = told(0, 1, 1, 1, 0, 0, 0, 0);
            Due.due("none: the set", x.was(0, 0, 0), 0);
            Due.due("none: how many sets", x.mayBe(0, 0, 0), 256);
            Due.due("one", x.was(0, 1, 0), 1);
            Due.due("two", x.was(0, 2, 0), 3);
            Due.due("all four, against one", x.was(0, 4, 0) + x.was(0, 4, 1), 3);
            x.row(1, 0, 40);
            for (int i = 0; i < 20; i++) {
                x.set(1, 2 * i, i == 19 ? 7 : 0);
                x.set(1, 2 * i + 1, 1);
            }
            Due.due("19", x.was(1, 19, 0), 1);
            Due.due("20", x.was(1, 20, 0), 129);
            Due.due("20: against none", x.mayBe(1, 20, 0), 64);
            Due.due("20: against all of them, too", x.mayBe(1, 20, 20), 256);
            Due.due("20: not against all of them", x.mayBe(1, 20, 19), 192);
            Due.due("20: the last THING", x.likely(1, 20, 7), 1000000);
            Due.due("19: the last THING", x.likely(1, 19, 7), 500000);
            Due.due("20: THING 1 is the first that isn't known", x.ask(1, 20), 1);
            Due.due("none: no THING is known", x.ask(1, 0), 0);
            Due.due("none of a ROW of none", x.row(2, 0, 0) + x.was(2, 0, 1), 1);
        });
        Due.edge("a THING, whether it was there: 1, 0", () -> {
            CorkSaysWhen x = told(0, 1, 7, 1, 0, 0, 7, 0);
            Due.due("the first THING was, the last one was", x.was(0, 2, 0), 129);
            Due.due("and they weren't: as many against all sets", x.mayBe(0, 4, 2), 256);
            Due.due("and against none fewer", x.mayBe(0, 4, 1), 0);
        });
    }

    private static void twosRefused(String promise, Twos call) {
        Due.edge(promise + ": BAD SHELF", () -> {
            CorkSaysWhen x = told(0, 1);
            x.row(7, 4, 2);
            Due.bounds(x, "SHELF", 0, 7, s -> call.ask(x, s, 1));
        });
        Due.edge(promise + ": BAD n", () -> {
            CorkSaysWhen x = told(new long[40]);
            Due.bounds(x, "n", 0, 20, n -> call.ask(x, 0, n));
        });
        Due.edge(promise + ": OTHER; NOTHING", () -> {
            CorkSaysWhen x = Due.of("heir 0 0 0");
            x.show(0, 0);
            Due.unchanged(x, () -> {
                refused(x, "an HEIR, for none", Due.OTHER, call, 0, 0);
                refused(x, "an HEIR, for 20", Due.OTHER, call, 0, 20);
                refused(x, "BAD n is ahead of OTHER", Due.BAD, call, 0, 21);
                refused(x, "NOTHING, for none", Due.NOTHING, call, 7, 0);
                refused(x, "NOTHING, for 20", Due.NOTHING, call, 7, 20);
                refused(x, "BAD n is ahead of NOTHING", Due.BAD, call, 7, 21);
            });
        });
        Due.edge(promise + ": BAD: fewer elements", () -> {
            fewer("half a two", call, 2, 0, 1, 1);
            fewer("no element", call, 1);
            fewer("39 elements", call, 20, new long[39]);
            fewer("it is ahead of STUCK", call, 2, 8, 1, 1);
            CorkSaysWhen x = told(0, 1);
            Due.due("just so many are enough", call.ask(x, 0, 1) < -1 ? 1 : 0, 0);
        });
        Due.edge(promise + ": STUCK: no THING, or neither 1 nor 0", () -> {
            stuck(call, 8, 0);
            stuck(call, -1, 0);
            stuck(call, 0, 2);
            stuck(call, 0, -1);
            stuck(call, 4294967296L, 0);
            stuck(call, 0, 4294967297L);
            stuck(call, Long.MIN_VALUE, 1);
            stuck(call, 7, Long.MAX_VALUE);
        });
    }

    private static void fewer(String why, Twos call, int n, long... twos) {
        CorkSaysWhen x = told(twos);
        Due.unchanged(x, () -> refused(x, why, Due.BAD, call, 0, n));
    }

    /** Such a two is refused as the second one and as the 20th, but not behind the n that are asked for. */
    private static void stuck(Twos call, long thing, long there) {
        for (int place = 2; place <= 20; place += 18) {
            CorkSaysWhen x = told(new long[40]);
            x.set(0, 2 * place - 2, thing);
            x.set(0, 2 * place - 1, there);
            int n = place;
            Due.unchanged(x, () -> refused(x, thing + ", " + there + " as two " + n, Due.STUCK, call, 0, n));
            Due.due(thing + ", " + there + " behind them", call.ask(x, 0, n - 1) < -1 ? 1 : 0, 0);
        }
    }

    private static void was() {
        Due.edge("Promise 30: IT WAS: the set that goes against fewest of them, of several the least as bits; against how many", () -> {
            Due.due("as many say so as not: it wasn't", told(3, 1, 3, 0).was(0, 2, 0), 0);
            Due.due("against one", told(3, 1, 3, 0).was(0, 2, 1), 1);
            Due.due("more say so", told(3, 1, 3, 0, 3, 1).was(0, 3, 0), 8);
            Due.due("what nobody tells wasn't", told(7, 0).was(0, 1, 0), 0);
            Due.due("all", told(0, 1, 1, 1, 2, 1, 3, 1, 4, 1, 5, 1, 6, 1, 7, 1).was(0, 8, 0), 255);
            Due.due("against ten of 20", told(0, 1, 0, 0, 0, 1, 0, 0, 0, 1, 0, 0, 0, 1, 0, 0, 0, 1, 0, 0, 0, 1, 0, 0, 0, 1, 0, 0,
                0, 1, 0, 0, 0, 1, 0, 0, 0, 1, 0, 0).was(0, 20, 1), 10);
        });
        Due.edge("Promise 30: BAD what", () -> {
            CorkSaysWhen x = told(0, 1);
            Due.bounds(x, "was(0, 1, what)", 0, 1, what -> x.was(0, 1, what));
            Due.unchanged(x, () -> {
                Due.refused(x, "BAD what is ahead of NOTHING", Due.BAD, () -> x.was(1, 0, 2));
            });
        });
    }

    private static void mayBe() {
        Due.edge("Promise 31: how many sets go against k at most (0 to 20)", () -> {
            CorkSaysWhen x = told(0, 1, 1, 1, 2, 1);
            int[] want = {32, 32 * 4, 32 * 7, 256, 256};
            for (int k = 0; k < want.length; k++) {
                Due.due("mayBe(0, 3, " + k + ")", x.mayBe(0, 3, k), want[k]);
            }
            Due.due("20", x.mayBe(0, 3, 20), 256);
            Due.due("none there can be", told(0, 1, 0, 0).mayBe(0, 2, 0), 0);
        });
        Due.edge("Promise 31: BAD k", () -> {
            CorkSaysWhen x = told(0, 1);
            Due.bounds(x, "mayBe(0, 1, k)", 0, 20, k -> x.mayBe(0, 1, k));
            Due.unchanged(x, () -> {
                Due.refused(x, "BAD k is ahead of NOTHING", Due.BAD, () -> x.mayBe(1, 0, 21));
            });
        });
    }

    private static void likely() {
        Due.edge("Promise 50: of 1,000,000 (cut), how many have a THING", () -> {
            CorkSaysWhen x = told(0, 1, 7, 0);
            Due.due("all have it", x.likely(0, 2, 0), 1000000);
            Due.due("none has it", x.likely(0, 2, 7), 0);
            Due.due("half have it", x.likely(0, 2, 3), 500000);
            Due.due("by none told", x.likely(0, 0, 0), 500000);
            Due.due("said and denied", told(3, 1, 3, 0).likely(0, 2, 3), 500000);
        });
        Due.edge("Promise 50: BAD thing", () -> {
            CorkSaysWhen x = told(0, 1);
            Due.bounds(x, "likely(0, 1, thing)", 0, 7, thing -> x.likely(0, 1, thing));
            Due.unchanged(x, () -> {
                Due.refused(x, "BAD thing is ahead of NOTHING", Due.BAD, () -> x.likely(1, 0, 8));
            });
        });
    }

    private static void ask() {
        Due.edge("Promise 51: in the worse case fewest are left, of several the first", () -> {
            Due.due("by none told", told().ask(0, 0), 0);
            Due.due("the first is known", told(0, 1).ask(0, 1), 1);
            Due.due("the first is said and denied", told(0, 1, 0, 0).ask(0, 2), 0);
            Due.due("the last alone isn't known", told(0, 1, 1, 0, 2, 1, 3, 0, 4, 1, 5, 0, 6, 1).ask(0, 7), 7);
        });
        Due.edge("Promise 51: NONE: none parts them .. (NONE isn't refused.)", () -> {
            CorkSaysWhen x = told(0, 1, 1, 0, 2, 1, 3, 0, 4, 1, 5, 0, 6, 1, 7, 0);
            Due.due("all are known", x.ask(0, 8), -1);
            Due.due("nothing is refused", x.status(12) + x.status(15), 0);
        });
    }

    private static void made() {
        Due.edge("Promise 32: MADE: JOY together is j at least (0 to 99); NONE", () -> {
            CorkSaysWhen x = new CorkSaysWhen();
            Due.due("0", x.made(0), 0);
            Due.due("1", x.made(1), 1);
            Due.due("just all", x.made(36), 255);
            Due.due("1 more than all", x.made(37), -1);
            Due.due("99", x.made(99), -1);
            Due.due("NONE isn't refused", x.status(12) + x.status(15), 0);
        });
        Due.edge("Promise 32: MADE: the one of fewest, of several the least as bits", () -> {
            CorkSaysWhen x = new CorkSaysWhen();
            Due.due("one alone has 8", x.made(8), 128);
            Due.due("of several of one", x.made(5), 16);
            Due.due("of several of two", x.made(9), 0b00011000);
            for (int thing = 0; thing < 8; thing++) {
                x.joy(thing, 9);
            }
            Due.due("9 of each: 9", x.made(9), 1);
            Due.due("9 of each: 10", x.made(10), 3);
            Due.due("9 of each: 72", x.made(72), 255);
            Due.due("9 of each: 73", x.made(73), -1);
            for (int thing = 0; thing < 8; thing++) {
                x.joy(thing, 0);
            }
            Due.due("0 of each: 0", x.made(0), 0);
            Due.due("0 of each: 1", x.made(1), -1);
        });
        Due.edge("Promise 32: BAD", () -> {
            CorkSaysWhen x = new CorkSaysWhen();
            Due.bounds(x, "made(j)", 0, 99, j -> x.made(j));
        });
    }

    private static void best() {
        Due.edge("Promise 33: BEST of m THINGS (0 to 8): the greatest JOY together of so many", () -> {
            CorkSaysWhen x = new CorkSaysWhen();
            Due.due("none", x.best(0), 0);
            Due.due("one", x.best(1), 8);
            Due.due("all", x.best(8), 36);
            x.joy(0, 9);
            Due.due("two", x.best(2), 17);
            for (int thing = 0; thing < 8; thing++) {
                x.joy(thing, 0);
            }
            Due.due("all of nothing", x.best(8), 0);
            Due.bounds(x, "best(m)", 0, 8, m -> x.best(m));
        });
    }

    private static void last() {
        Due.edge("Promise 34: LAST by turns: n drops (0 to 200), two by turns drink 1 to m (1 to 9) of them", () -> {
            CorkSaysWhen x = new CorkSaysWhen();
            int[][] want = {{1, 1, 1}, {2, 1, 0}, {9, 9, 9}, {10, 9, 0}, {11, 9, 1}, {200, 9, 0}, {199, 9, 9}, {200, 1, 0}, {199, 1, 1}, {200, 6, 4}};
            for (int[] turns : want) {
                Due.due("of " + turns[0] + " by " + turns[1] + " at most", x.last(turns[0], turns[1], 0), turns[2]);
                Due.due("whether he wins", x.last(turns[0], turns[1], 1), turns[2] > 0 ? 1 : 0);
            }
        });
        Due.edge("Promise 34: how many who begins should drink, of several the least; 0: he can't win", () -> {
            CorkSaysWhen x = new CorkSaysWhen();
            Due.due("nothing is there", x.last(0, 9, 0), 0);
            Due.due("nothing is there: he doesn't win", x.last(0, 9, 1), 0);
            Due.due("1 more than he may drink", x.last(6, 5, 0), 0);
            Due.due("all he may drink", x.last(5, 5, 0), 5);
        });
        Due.edge("Promise 34: BAD", () -> {
            CorkSaysWhen x = new CorkSaysWhen();
            Due.bounds(x, "last(n, 2, 0)", 0, 200, n -> x.last(n, 2, 0));
            Due.bounds(x, "last(7, m, 0)", 1, 9, m -> x.last(7, m, 0));
            Due.bounds(x, "last(7, 2, what)", 0, 1, what -> x.last(7, 2, what));
        });
    }

    private static void odds() {
        Due.edge("Promise 35: ODDS: each of t YEARS (0 to 12) .. q drops (0 to 99)", () -> {
            CorkSaysWhen x = Due.of("store 12");
            Due.due("none: how likely", x.odds(0, 99, 0), 1000000);
            Due.due("none: the mean", x.odds(0, 99, 1), 12);
            Due.due("no drops: how likely", x.odds(12, 0, 0), 1000000);
            Due.due("no drops: the mean", x.odds(12, 0, 1), 12);
            // STORE is 0 only with a child in each of 12 YEARS: 1 of 4096.
            Due.due("1 in 12: how likely (cut)", x.odds(12, 1, 0), 999755);
            Due.due("1 in 12: the mean", x.odds(12, 1, 1), 6);
            Due.due("1 in 11: how likely", x.odds(11, 1, 0), 1000000);
            Due.due("99 in 12: how likely (cut)", x.odds(12, 99, 0), 244);
        });
        Due.edge("Promise 35: takes q drops at once (STORE at most)", () -> {
            CorkSaysWhen x = Due.of("store 5");
            Due.due("99 of 5: how likely", x.odds(1, 99, 0), 500000);
            Due.due("99 of 5: the mean (cut)", x.odds(1, 99, 1), 2);
            Due.due("all of 5", x.odds(1, 5, 0), 500000);
            Due.due("all of 5 but one", x.odds(1, 4, 0), 1000000);
            Due.due("all of 5 but one: the mean", x.odds(1, 4, 1), 3);
            Due.due("3 of 5 twice: the mean of 5, 2, 2, 0", x.odds(2, 3, 1), 2);
        });
        Due.edge("Promise 35: how likely STORE isn't 0 behind them", () -> {
            CorkSaysWhen x = Due.of("store 0");
            Due.due("it is 0 already", x.odds(0, 0, 0), 0);
            Due.due("it is 0 already", x.odds(12, 0, 0), 0);
            Due.due("the mean", x.odds(12, 99, 1), 0);
            x.tell(0, 9999);
            Due.due("there is enough", x.odds(12, 99, 0), 1000000);
            Due.due("there is enough: the mean", x.odds(12, 99, 1), 9405);
        });
        Due.edge("Promise 35: (nothing else of a YEAR goes by)", () -> {
            CorkSaysWhen x = Due.of("heir 0 0 0; year 21; store 50");
            Due.due("nobody comes OF AGE", x.odds(12, 0, 1), 50);
        });
        Due.edge("Promise 35: BAD", () -> {
            CorkSaysWhen x = new CorkSaysWhen();
            Due.bounds(x, "odds(t, 2, 0)", 0, 12, t -> x.odds(t, 2, 0));
            Due.bounds(x, "odds(2, q, 0)", 0, 99, q -> x.odds(2, q, 0));
            Due.bounds(x, "odds(2, 2, what)", 0, 1, what -> x.odds(2, 2, what));
        });
    }

    private static void fits() {
        Due.edge("Promise 36: KINDS (bits) of one by a told ROW of what he HAS behind 1, 2, .. YEARS, all else as it is", () -> {
            // Of 60 in an odd YEAR, with a 3, are left: 54, 30, 57, 27, 60, 53.
            int[] left = {54, 30, 57, 27, 60, 53, 61, 0};
            int[] kinds = {1, 2, 4, 8, 16, 32, 0, 0};
            CorkSaysWhen x = Due.of("heir 5 3 0; year 21");
            for (int i = 0; i < left.length; i++) {
                Due.lay(x, 0, left[i]);
                Due.due(left[i] + " are left", x.fits(0, 1, 0, 0), kinds[i]);
            }
            Due.lay(x, 0, 60, 57, 57, 0);
            Due.due("three YEARS", x.fits(0, 3, 0, 0), 16);
            Due.due("four YEARS", x.fits(0, 4, 0, 0), 0);
            Due.due("he is who he was", x.heirOf(0, 0), 5);
        });
        Due.edge("Promise 36: As (bits 0 to 9) likewise", () -> {
            CorkSaysWhen x = Due.of("heir 2 5 0; year 21");
            for (int a = 0; a <= 9; a++) {
                Due.lay(x, 0, 60 - a);
                Due.due("a is " + a, x.fits(0, 1, 0, 1), 1 << a);
            }
            Due.lay(x, 0, 50);
            Due.due("a is no 10", x.fits(0, 1, 0, 1), 0);
            CorkSaysWhen any = Due.of("heir 0 0 0");
            Due.lay(any, 0, 0);
            Due.due("all of them", any.fits(0, 1, 0, 1), 1023);
            Due.due("all KINDS", any.fits(0, 1, 0, 0), 63);
            Due.due("he is who he was", x.heirOf(0, 1), 5);
        });
        Due.edge("Promise 36: by the first n elements (1 to 40)", () -> {
            CorkSaysWhen x = Due.of("heir 0 0 0");
            x.tell(1, 999);
            x.tell(0, 0);
            x.row(0, 3, 40);
            Due.due("40", x.fits(0, 40, 0, 0), 63);
            x.set(0, 39, 1);
            Due.due("the 40th isn't so", x.fits(0, 40, 0, 0), 0);
            Due.due("39 are", x.fits(0, 39, 0, 0), 63);
            x.set(0, 39, 4294967296L);
            Due.due("a long that isn't 0", x.fits(0, 40, 0, 0), 0);
            x.row(1, 4, 1);
            Due.due("a boolean, told as a number", x.fits(1, 1, 0, 0), 63);
        });
        Due.edge("Promise 36: BAD SHELF, heir", () -> {
            CorkSaysWhen x = Due.of("heir 0 0 0; heir 0 0 0");
            x.row(0, 0, 1);
            x.row(7, 0, 1);
            Due.bounds(x, "fits(s, 1, 0, 0)", 0, 7, s -> x.fits(s, 1, 0, 0));
            x.show(7, -1);
            Due.bounds(x, "fits(0, 1, heir, 0)", 0, 1, heir -> x.fits(0, 1, heir, 0));
        });
        Due.edge("Promise 36: BAD n, what", () -> {
            CorkSaysWhen x = Due.of("heir 0 0 0");
            x.row(0, 0, 40);
            Due.bounds(x, "fits(0, n, 0, 0)", 1, 40, n -> x.fits(0, n, 0, 0));
            Due.bounds(x, "fits(0, 1, 0, what)", 0, 1, what -> x.fits(0, 1, 0, what));
        });
        Due.edge("Promise 36: OTHER; NOTHING; BAD: fewer elements", () -> {
            CorkSaysWhen x = Due.of("heir 0 0 0");
            x.show(0, 0);
            x.row(1, 0, 2);
            x.row(2, 0, 0);
            Due.unchanged(x, () -> {
                Due.refused(x, "an HEIR", Due.OTHER, () -> x.fits(0, 40, 0, 0));
                Due.refused(x, "NOTHING", Due.NOTHING, () -> x.fits(7, 40, 0, 0));
                Due.refused(x, "fewer", Due.BAD, () -> x.fits(1, 3, 0, 0));
                Due.refused(x, "none", Due.BAD, () -> x.fits(2, 1, 0, 0));
                Due.refused(x, "BAD heir is ahead of OTHER", Due.BAD, () -> x.fits(0, 1, 1, 0));
                Due.refused(x, "BAD what is ahead of NOTHING", Due.BAD, () -> x.fits(7, 1, 0, 2));
                Due.refused(x, "BAD n is ahead of OTHER", Due.BAD, () -> x.fits(0, 0, 0, 0));
                Due.refused(x, "BAD n is ahead of OTHER", Due.BAD, () -> x.fits(0, 41, 0, 0));
            });
            Due.due("just so many", x.fits(1, 2, 0, 0), 63);
        });
    }

    private static void judge() {
        Due.edge("Promise 53: WRONG: the first that isn't so (its place, from 0); NONE", () -> {
            CorkSaysWhen x = Due.of("heir 2 0 0; year 20");
            Due.lay(x, 0, 660, 600, 600);
            Due.due("all are so", x.judge(0, 3), -1);
            Due.due("NONE isn't refused", x.status(12) + x.status(15), 0);
            Due.lay(x, 0, 600, 600, 0);
            Due.due("the first and the last aren't", x.judge(0, 3), 0);
            Due.lay(x, 0, 660, 600, 601);
            Due.due("the last isn't", x.judge(0, 3), 2);
            Due.due("it isn't asked", x.judge(0, 2), -1);
            Due.lay(x, 0, 660 + 4294967296L);
            Due.due("a long that isn't so", x.judge(0, 1), 0);
        });
        Due.edge("Promise 53: by the first n elements (0 to 40)", () -> {
            CorkSaysWhen x = new CorkSaysWhen();
            x.row(0, 2, 40);
            Due.due("none", x.judge(0, 0), -1);
            Due.due("one", x.judge(0, 1), 0);
            for (int i = 0; i < 39; i++) {
                x.set(0, i, 660);
            }
            Due.due("39", x.judge(0, 39), -1);
            Due.due("40", x.judge(0, 40), 39);
            x.row(1, 2, 0);
            Due.due("none of a ROW of none", x.judge(1, 0), -1);
        });
        Due.edge("Promise 53: BAD SHELF, n", () -> {
            CorkSaysWhen x = new CorkSaysWhen();
            x.row(0, 0, 40);
            x.row(7, 0, 0);
            Due.bounds(x, "judge(s, 0)", 0, 7, s -> x.judge(s, 0));
            x.show(7, -1);
            Due.bounds(x, "judge(0, n)", 0, 40, n -> x.judge(0, n));
        });
        Due.edge("Promise 53: OTHER; NOTHING; BAD: fewer elements", () -> {
            CorkSaysWhen x = Due.of("heir 0 0 0");
            x.show(0, 0);
            x.row(1, 0, 2);
            Due.unchanged(x, () -> {
                Due.refused(x, "an HEIR", Due.OTHER, () -> x.judge(0, 40));
                Due.refused(x, "an HEIR, for none", Due.OTHER, () -> x.judge(0, 0));
                Due.refused(x, "NOTHING", Due.NOTHING, () -> x.judge(7, 40));
                Due.refused(x, "NOTHING, for none", Due.NOTHING, () -> x.judge(7, 0));
                Due.refused(x, "fewer", Due.BAD, () -> x.judge(1, 3));
                Due.refused(x, "BAD n is ahead of OTHER", Due.BAD, () -> x.judge(0, 41));
            });
            Due.due("just so many", x.judge(1, 2), 0);
        });
    }
}
