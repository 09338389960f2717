import java.util.function.IntSupplier;

/** The boundary cases of promises 18 to 25, 37, 40 to 42, 47 to 49: a test for each sentence. */
public final class EdgeAheadTest {
    /** He comes OF AGE in the YEAR 199, which is the last of 200, or one YEAR behind that. */
    private static final String IN_TIME = "heir 2 9 178";
    private static final String TOO_LATE = "heir 2 9 179";

    public static void main(String[] args) {
        nothingIsChanged();
        ahead();
        later();
        out();
        longest();
        happiest();
        fair();
        better();
        spared();
        when();
        needs();
        most();
        feast();
        fairest();
        merriest();
        dry();
        Due.end("EdgeAheadTest");
    }

    private static void nothingIsChanged() {
        Due.edge("WHAT COMES OF IT (nothing is changed)", () -> {
            CorkSaysWhen x = Due.of("heir 1 3 0; child 4 4 5 0; heir 5 0 2; has 0 7; year 19; rule 2; store 300");
            x.years(3);
            x.row(0, 3, 2);
            String ahead = Due.all(x);
            x.ahead(200, 0);
            x.later(0, 200, 1);
            x.out();
            x.longest();
            x.happiest(200, 1);
            x.fair(200);
            x.better(0);
            x.spared();
            x.when(0, 1);
            x.needs(60);
            x.most();
            x.feast(200, 1);
            x.fairest(200);
            x.merriest(0, 200);
            x.dry(200);
            x.fits(0, 2, 0, 0);
            x.judge(0, 2);
            x.was(0, 1, 0);
            x.odds(12, 99, 1);
            Due.same("all of them", Due.all(x), ahead);
            Due.due("none was refused", x.status(12) + x.status(13) + x.status(14) + x.status(15) + x.status(16), 0);
        });
        Due.edge("WHAT COMES OF IT (nothing is changed): whatever was asked ahead", () -> {
            CorkSaysWhen x = Due.of("heir 2 9 0; year 20; store 60");
            IntSupplier[] looks = {() -> x.ahead(1, 0), () -> x.later(0, 1, 2), () -> x.out(), () -> x.longest(), () -> x.happiest(2, 1),
                () -> x.fair(2), () -> x.better(0), () -> x.spared(), () -> x.when(0, 0), () -> x.needs(60), () -> x.most(),
                () -> x.feast(9, 1), () -> x.fairest(9), () -> x.merriest(0, 2), () -> x.dry(60)};
            int[] want = {60, 0, 2, 1, 9, 0, 0, 0, 2, 61, 1, 9, 0, 3, 52};
            for (int i = 0; i < looks.length; i++) {
                Due.due("look " + i, looks[i].getAsInt(), want[i]);
                x.ahead(200, 0);
                Due.due("look " + i + " behind a look ahead", looks[i].getAsInt(), want[i]);
            }
        });
    }

    private static void ahead() {
        Due.edge("Promise 18: AHEAD n YEARS (0 to 200)", () -> {
            CorkSaysWhen x = Due.of(IN_TIME);
            Due.due("STORE behind 0", x.ahead(0, 0), 660);
            Due.due("STORE behind 199", x.ahead(199, 0), 660);
            Due.due("STORE behind 200", x.ahead(200, 0), 600);
            Due.due("OF AGE behind 199", x.ahead(199, 1), 0);
            Due.due("OF AGE behind 200", x.ahead(200, 1), 1);
            Due.due("HAVE behind 199", x.ahead(199, 2), 0);
            Due.due("HAVE behind 200", x.ahead(200, 2), 51);
            Due.due("too late", Due.of(TOO_LATE).ahead(200, 1), 0);
        });
        Due.edge("Promise 18: STORE (what 0), how many are OF AGE (1), all that HEIRS HAVE together (2)", () -> {
            CorkSaysWhen none = new CorkSaysWhen();
            Due.due("no HEIRS: STORE", none.ahead(200, 0), 660);
            Due.due("no HEIRS: OF AGE", none.ahead(200, 1), 0);
            Due.due("no HEIRS: HAVE", none.ahead(200, 2), 0);
            CorkSaysWhen x = Due.of("heir 2 0 0; heir 2 0 49; heir 2 0 90; year 70");
            x.years(1);
            Due.read(x, "has 0 1; has 1 10; has 2 100");
            Due.due("what the DEAD, OF AGE, YOUNG HAVE", x.ahead(0, 2), 111);
            Due.due("only one is OF AGE", x.ahead(0, 1), 1);
        });
        Due.edge("Promise 18: BAD", () -> {
            CorkSaysWhen x = Due.of(IN_TIME);
            Due.bounds(x, "ahead(n, 0)", 0, 200, n -> x.ahead(n, 0));
            Due.bounds(x, "ahead(1, what)", 0, 2, what -> x.ahead(1, what));
        });
    }

    private static void later() {
        Due.edge("Promise 19: what one HAS (what 0), USED (1; from now on), how he is (2)", () -> {
            CorkSaysWhen x = Due.of("heir 1 0 0; year 21");
            x.years(1);
            Due.due("USED so far", x.heirOf(0, 5), 30);
            Due.due("USED from now on, in none", x.later(0, 0, 1), 0);
            Due.due("USED from now on, in one", x.later(0, 1, 1), 15);
            Due.due("HAS behind none", x.later(0, 0, 0), 30);
            Due.due("HAS behind one", x.later(0, 1, 0), 15);
            Due.due("how he is behind none", x.later(0, 0, 2), 1);
            Due.due("how he is behind 48", x.later(0, 48, 2), 1);
            Due.due("how he is behind 49", x.later(0, 49, 2), 2);
        });
        Due.edge("Promise 19: AHEAD n YEARS (0 to 200)", () -> {
            CorkSaysWhen x = Due.of(IN_TIME);
            Due.due("behind 199", x.later(0, 199, 2), 0);
            Due.due("behind 200", x.later(0, 200, 2), 1);
            Due.due("HAS behind 200", x.later(0, 200, 0), 51);
            Due.due("USED behind 200", x.later(0, 200, 1), 9);
        });
        Due.edge("Promise 19: BAD", () -> {
            CorkSaysWhen x = Due.of("heir 0 0 0; heir 0 0 0");
            Due.bounds(x, "later(heir, 1, 0)", 0, 1, heir -> x.later(heir, 1, 0));
            Due.bounds(x, "later(0, n, 0)", 0, 200, n -> x.later(0, n, 0));
            Due.bounds(x, "later(0, 1, what)", 0, 2, what -> x.later(0, 1, what));
        });
    }

    private static void out() {
        Due.edge("Promise 20: OUT: behind how many YEARS (0 to 200) STORE is 0; NONE", () -> {
            Due.due("now", Due.of("heir 0 0 0; store 0").out(), 0);
            Due.due("behind 1", Due.of("heir 0 0 0; year 21; store 60").out(), 1);
            Due.due("one drop is left", Due.of("heir 0 0 0; year 21; store 61").out(), -1);
            Due.due("behind 200", Due.of(IN_TIME + "; store 60").out(), 200);
            Due.due("behind 201", Due.of(TOO_LATE + "; store 60").out(), -1);
            Due.due("though it is filled again then", Due.of("heir 2 0 0; year 69; store 60").out(), 1);
            Due.due("now, though it is filled then", Due.of("heir 2 0 0; year 70; store 0; has 0 50").out(), 0);
            Due.due("no HEIRS", new CorkSaysWhen().out(), -1);
            Due.due("no HEIRS, and nothing", Due.of("store 0").out(), 0);
        });
        Due.edge("Promise 20: (NONE isn't refused.)", () -> {
            CorkSaysWhen x = new CorkSaysWhen();
            x.out();
            Due.due("REFUSALS", x.status(12) + x.status(13) + x.status(14) + x.status(15) + x.status(16), 0);
        });
    }

    private static void longest() {
        Due.edge("Promise 21: LONGEST: the RULE by which OUT is latest (NONE is latest of all)", () -> {
            Due.due("a tenth is never OUT", Due.of("heir 0 0 0; year 21; store 60; rule 2").longest(), 1);
            Due.due("never is later than behind 200", Due.of(IN_TIME + "; store 60").longest(), 1);
            Due.due("even", Due.of("heir 0 0 0; heir 0 0 10; year 21; store 1").longest(), 2);
            Due.due("thimble", Due.of("heir 0 0 0; year 21; store 61; rule 2").longest(), 0);
            Due.due("behind 201 is never", Due.of(TOO_LATE + "; store 60").longest(), 0);
        });
        Due.edge("Promise 21: LONGEST: of several the least", () -> {
            Due.due("all never", Due.of("rule 2").longest(), 0);
            Due.due("all at once", Due.of("rule 2; store 0").longest(), 0);
            Due.due("all as late", Due.of("heir 0 0 0; year 21; store 1; rule 2").longest(), 0);
            Due.due("two never", Due.of("heir 0 0 0; heir 0 0 999; year 21; store 60; rule 2").longest(), 1);
        });
    }

    private static void happiest() {
        Due.edge("Promise 22: HAPPIEST in n YEARS (0 to 200): the one who USES most in them; how much", () -> {
            CorkSaysWhen x = Due.of("heir 2 1 999; " + IN_TIME);
            Due.due("who in 199", x.happiest(199, 0), 0);
            Due.due("how much in 199", x.happiest(199, 1), 0);
            Due.due("who in 200", x.happiest(200, 0), 1);
            Due.due("how much in 200", x.happiest(200, 1), 9);
            x.tell(1, 199);
            x.years(1);
            Due.due("how much in none, though he USED", x.happiest(0, 1), 0);
            Due.due("who in none, though he USED", x.happiest(0, 0), 0);
            Due.due("how much in one, from now on", x.happiest(1, 1), 9);
        });
        Due.edge("Promise 22: HAPPIEST: of several the first", () -> {
            Due.due("as much", Due.of("heir 2 3 0; heir 2 4 0; heir 2 4 0; year 21").happiest(9, 0), 1);
            Due.due("nothing", Due.of("heir 2 0 0; heir 2 0 0; year 21").happiest(9, 0), 0);
        });
        Due.edge("Promise 22: BAD; STUCK: no HEIRS", () -> {
            CorkSaysWhen none = new CorkSaysWhen();
            Due.unchanged(none, () -> {
                Due.refused(none, "happiest(0, 0)", Due.STUCK, () -> none.happiest(0, 0));
                Due.refused(none, "happiest(200, 1)", Due.STUCK, () -> none.happiest(200, 1));
                Due.refused(none, "BAD n is ahead of STUCK", Due.BAD, () -> none.happiest(201, 0));
                Due.refused(none, "BAD what is ahead of STUCK", Due.BAD, () -> none.happiest(0, 2));
            });
            CorkSaysWhen x = Due.of("heir 0 0 0");
            Due.bounds(x, "happiest(n, 0)", 0, 200, n -> x.happiest(n, 0));
            Due.bounds(x, "happiest(1, what)", 0, 1, what -> x.happiest(1, what));
        });
    }

    private static void fair() {
        Due.edge("Promise 23: FAIR: how much less one, of all HEIRS there are, USES in n YEARS than the one who USES most, at the most", () -> {
            CorkSaysWhen x = Due.of("heir 2 5 0; heir 2 9 0; heir 2 7 0; year 21");
            Due.due("the least is the first", x.fair(1), 4);
            Due.due("in none", x.fair(0), 0);
            Due.due("one is YOUNG", Due.of("heir 2 9 0; heir 2 9 999; year 21").fair(2), 18);
            CorkSaysWhen dead = Due.of("heir 2 9 0; heir 2 9 49; year 70");
            dead.years(1);
            Due.due("the first is DEAD", dead.fair(2), 18);
            CorkSaysWhen lastDead = Due.of("heir 2 9 49; heir 2 9 0; year 70");
            lastDead.years(1);
            Due.due("the last is DEAD", lastDead.fair(2), 18);
            Due.due("in 199", Due.of("heir 2 1 999; " + IN_TIME).fair(199), 0);
            Due.due("in 200", Due.of("heir 2 1 999; " + IN_TIME).fair(200), 9);
            Due.due("one alone", Due.of("heir 2 9 0; year 21").fair(200), 0);
        });
        Due.edge("Promise 23: 0: no HEIRS. BAD", () -> {
            CorkSaysWhen none = new CorkSaysWhen();
            Due.due("no HEIRS", none.fair(200), 0);
            Due.bounds(none, "fair(n)", 0, 200, n -> none.fair(n));
            CorkSaysWhen x = Due.of("heir 0 0 0");
            Due.bounds(x, "fair(n)", 0, 200, n -> x.fair(n));
        });
    }

    private static void better() {
        Due.edge("Promise 24: BETTER: the KIND of one, all else as it is, by which OUT is latest, of several the least", () -> {
            // Heir 0 dies in the YEAR 70, and leaves to STORE what he HAS; heir 1 wants 60 in the YEAR 71.
            String late = "heir 1 2 0; heir 2 0 50; year 69; store 61; has 0 ";
            Due.due("by none it's later", Due.of(late + "0").better(0), 0);
            Due.due("MISER alone", Due.of(late + "2").better(0), 4);
            Due.due("SAVER, and MISER", Due.of(late + "4").better(0), 2);
            Due.due("never by all", Due.of(late + "99").better(0), 0);
            Due.due("of the last one, never by none", Due.of(late + "0").better(1), 0);
            // What two FROM him can't halve comes to STORE: an EXPERT leaves 53, all others an even number.
            Due.due("EXPERT alone", Due.of("year 70; heir 0 0 0; child 0 0 49 0; child 0 0 69 0; store 80").better(0), 5);
            Due.due("nothing is there", Due.of("heir 5 0 0; store 0").better(0), 0);
        });
        Due.edge("Promise 24: BAD", () -> {
            CorkSaysWhen x = Due.of("heir 0 0 0; heir 0 0 0");
            Due.bounds(x, "better(heir)", 0, 1, heir -> x.better(heir));
            CorkSaysWhen none = new CorkSaysWhen();
            Due.unchanged(none, () -> {
                Due.refused(none, "there is none", Due.BAD, () -> none.better(0));
            });
        });
    }

    private static void spared() {
        Due.edge("Promise 25: SPARED: the one without whom OUT is latest, of several the first", () -> {
            Due.due("one alone", Due.of("heir 0 0 0; year 21; store 60").spared(), 0);
            Due.due("nobody matters", Due.of("heir 0 0 0; heir 0 0 5; year 21").spared(), 0);
            Due.due("nothing is there", Due.of("heir 0 0 0; heir 0 0 5; store 0").spared(), 0);
            Due.due("behind 200 isn't never", Due.of("heir 0 0 999; " + IN_TIME + "; store 60").spared(), 1);
            Due.due("behind 201 is never", Due.of("heir 0 0 999; " + TOO_LATE + "; store 60").spared(), 0);
            Due.due("two of three", Due.of("heir 0 0 999; heir 0 0 0; heir 0 0 0; year 21; store 120").spared(), 1);
            Due.due("the tenth", Due.of("heir 0 0 999" + ";heir 0 0 999".repeat(8) + ";heir 0 0 0;year 21;store 60").spared(), 9);
        });
        Due.edge("Promise 25: SPARED: (as if he were DEAD now, what he HAS being nobody's)", () -> {
            // Heir 0 HAS 40 and would leave them to STORE in the YEAR 70; heir 1 wants 60 in the YEAR 71.
            CorkSaysWhen x = Due.of("heir 2 0 0; heir 2 0 50; year 21; store 60");
            x.years(1);
            Due.due("what heir 0 HAS", Due.read(x, "has 0 40; store 30; year 70"), 3);
            Due.due("without heir 1 it lasts, without heir 0 it doesn't", x.spared(), 1);
            Due.due("he HAS it still", x.heirOf(0, 4), 40);
        });
        Due.edge("Promise 25: STUCK: no HEIRS", () -> {
            CorkSaysWhen none = new CorkSaysWhen();
            Due.unchanged(none, () -> {
                Due.refused(none, "spared()", Due.STUCK, () -> none.spared());
            });
        });
    }

    private static void when() {
        Due.edge("Promise 37: Behind how many YEARS (0 to 200) one is OF AGE, or has been (what 0), DEAD (1)", () -> {
            CorkSaysWhen x = Due.of(IN_TIME + "; " + TOO_LATE + "; heir 0 0 129; heir 0 0 130; heir 0 0 0; year 0");
            int[][] want = {{200, -1}, {-1, -1}, {151, 200}, {152, -1}, {22, 71}};
            for (int heir = 0; heir < 5; heir++) {
                Due.due("OF AGE: when(" + heir + ", 0)", x.when(heir, 0), want[heir][0]);
                Due.due("DEAD: when(" + heir + ", 1)", x.when(heir, 1), want[heir][1]);
            }
            Due.due("NONE isn't refused", x.status(12) + x.status(15), 0);
        });
        Due.edge("Promise 37: now; or has been", () -> {
            CorkSaysWhen x = Due.of("heir 0 0 0; heir 0 0 49; year 70");
            Due.due("OF AGE and DEAD within one YEAR", x.when(0, 0), 1);
            Due.due("OF AGE and DEAD within one YEAR", x.when(0, 1), 1);
            x.years(1);
            Due.due("is OF AGE", x.when(1, 0), 0);
            Due.due("has been OF AGE, and is DEAD", x.when(0, 0), 0);
            Due.due("is DEAD", x.when(0, 1), 0);
            Due.due("will be DEAD, behind YEAR 119", x.when(1, 1), 49);
        });
        Due.edge("Promise 37: BAD", () -> {
            CorkSaysWhen x = Due.of("heir 0 0 0; heir 0 0 0");
            Due.bounds(x, "when(heir, 0)", 0, 1, heir -> x.when(heir, 0));
            Due.bounds(x, "when(0, what)", 0, 1, what -> x.when(0, what));
        });
    }

    private static void needs() {
        Due.edge("Promise 40: The least STORE (0 to 999) by which OUT is later than t YEARS (0 to 60; NONE is)", () -> {
            CorkSaysWhen x = Due.of("heir 0 0 38; store 5");
            Due.due("STORE 0 is OUT behind 0", x.needs(0), 1);
            Due.due("behind 60 he has come OF AGE", x.needs(60), 61);
            Due.due("behind 59 he hasn't", x.needs(59), 1);
            Due.due("behind 60 he hasn't", Due.of("heir 0 0 39").needs(60), 1);
            Due.due("OUT behind just t isn't later", Due.of("heir 0 0 0; year 21").needs(1), 61);
            Due.due("no HEIRS", Due.of("store 0").needs(60), 1);
            Due.due("ten at once", Due.of("heir 0 0 0" + ";heir 0 0 0".repeat(9) + ";year 21").needs(1), 601);
        });
        Due.edge("Promise 40: NONE .. (NONE isn't refused.)", () -> {
            CorkSaysWhen x = Due.of("heir 0 0 0; year 21; rule 2");
            Due.due("he takes all", x.needs(1), -1);
            Due.due("not yet", x.needs(0), 1);
            Due.due("nothing is refused", x.status(12) + x.status(15), 0);
        });
        Due.edge("Promise 40: BAD", () -> {
            CorkSaysWhen x = Due.of("heir 0 0 0");
            Due.bounds(x, "needs(t)", 0, 60, t -> x.needs(t));
            Due.due("STORE is as it was", x.status(1), 660);
        });
    }

    private static void most() {
        Due.edge("Promise 41: in 200 YEARS (now, and behind each YEAR)", () -> {
            Due.due("behind the 200th", Due.of(IN_TIME).most(), 1);
            Due.due("behind the 201st", Due.of(TOO_LATE).most(), 0);
            CorkSaysWhen x = Due.of("heir 0 0 0; heir 0 0 0; year 69");
            x.years(1);
            Due.due("now", x.most(), 2);
            x.years(1);
            Due.due("they are DEAD", x.most(), 0);
            Due.due("no HEIRS", new CorkSaysWhen().most(), 0);
            Due.due("ten", Due.of("heir 0 0 0" + ";heir 0 0 0".repeat(9)).most(), 10);
        });
        Due.edge("Promise 41: one who comes OF AGE and is DEAD within one YEAR doesn't count", () -> {
            Due.due("70", Due.of("heir 0 0 0; year 70").most(), 0);
            Due.due("69", Due.of("heir 0 0 0; year 69").most(), 1);
        });
        Due.edge("Promise 41: at once", () -> {
            Due.due("one comes in the YEAR in which the other dies", Due.of("heir 0 0 0; heir 0 0 49; year 20").most(), 1);
            Due.due("one comes a YEAR ahead of that", Due.of("heir 0 0 0; heir 0 0 48; year 20").most(), 2);
        });
    }

    private static void feast() {
        Due.edge("Promise 42: of the next n (1 to 200), as how many YEARS from now, the first being 0 (what 0), how much (1)", () -> {
            CorkSaysWhen x = Due.of(IN_TIME);
            Due.due("the 200th: when", x.feast(200, 0), 199);
            Due.due("the 200th: how much", x.feast(200, 1), 9);
            Due.due("not in 199: when", x.feast(199, 0), 0);
            Due.due("not in 199: how much", x.feast(199, 1), 0);
            CorkSaysWhen now = Due.of("heir 2 9 0; year 21");
            Due.due("the first: when", now.feast(1, 0), 0);
            Due.due("the first: how much", now.feast(1, 1), 9);
            Due.due("no HEIRS", new CorkSaysWhen().feast(200, 0), 0);
        });
        Due.edge("Promise 42: of several the first", () -> {
            CorkSaysWhen x = Due.of("heir 2 9 0; year 19");
            Due.due("of many as much", x.feast(200, 0), 2);
            Due.due("of two with nothing", x.feast(2, 0), 0);
        });
        Due.edge("Promise 42: BAD", () -> {
            CorkSaysWhen x = Due.of("heir 0 0 0");
            Due.bounds(x, "feast(n, 0)", 1, 200, n -> x.feast(n, 0));
            Due.bounds(x, "feast(1, what)", 0, 1, what -> x.feast(1, what));
        });
    }

    private static void fairest() {
        Due.edge("Promise 47: The RULE by which FAIR in n YEARS (0 to 200) is least, of several the least", () -> {
            // All of it USED by two: 60 and 44; 11 and 10; 52 and 52.
            Due.due("even alone", Due.of("heir 1 0 0; heir 1 0 0; year 21; store 104").fairest(30), 2);
            // 30 and 0; 3 and 3; 15 and 15.
            Due.due("a tenth, and even", Due.of("heir 1 0 0; heir 1 0 0; year 21; store 30; rule 2").fairest(1), 1);
            Due.due("all, in none", Due.of("heir 1 0 0; heir 1 0 0; year 21; store 30; rule 2").fairest(0), 0);
            Due.due("no HEIRS", Due.of("rule 2").fairest(200), 0);
            // Just in the 200th YEAR heir 1 USES half: of 60; 7; all 66.
            CorkSaysWhen x = Due.of("heir 1 0 999; heir 1 0 178; store 66");
            Due.due("in 199", x.fairest(199), 0);
            Due.due("in 200", x.fairest(200), 1);
        });
        Due.edge("Promise 47: BAD", () -> {
            CorkSaysWhen x = Due.of("heir 0 0 0; rule 1");
            Due.bounds(x, "fairest(n)", 0, 200, n -> x.fairest(n));
            Due.due("RULE is as it was", x.status(3), 1);
        });
    }

    private static void merriest() {
        Due.edge("Promise 48: The KIND of one by which he USES most in n YEARS (0 to 200), of several the least", () -> {
            Due.due("all, in none", Due.of("heir 5 9 0; year 21").merriest(0, 0), 0);
            Due.due("RIDER alone", Due.of("heir 0 9 0; year 21").merriest(0, 1), 3);
            Due.due("SPENDER, and RIDER", Due.of("heir 0 0 0; year 21").merriest(0, 1), 1);
            Due.due("EXPERT alone: 2 of 2", Due.of("heir 1 0 0; year 21; store 2").merriest(0, 1), 5);
            Due.due("SAVER, and others: 2 of 2", Due.of("heir 1 2 0; year 21; store 2").merriest(0, 1), 2);
            Due.due("all, of nothing", Due.of("heir 5 9 0; year 21; store 0").merriest(0, 200), 0);
            CorkSaysWhen x = Due.of("heir 0 9 178");
            Due.due("in 199", x.merriest(0, 199), 0);
            Due.due("in 200", x.merriest(0, 200), 3);
        });
        Due.edge("Promise 48: BAD", () -> {
            CorkSaysWhen x = Due.of("heir 5 0 0; heir 0 0 0");
            Due.bounds(x, "merriest(heir, 1)", 0, 1, heir -> x.merriest(heir, 1));
            Due.bounds(x, "merriest(0, n)", 0, 200, n -> x.merriest(0, n));
            Due.due("KIND is as it was", x.heirOf(0, 0), 5);
        });
    }

    private static void dry() {
        Due.edge("Promise 49: How many YEARS at once, at the most, of the next n (0 to 200) nobody USES anything", () -> {
            Due.due("in none", Due.of("heir 4 1 0; year 20").dry(0), 0);
            Due.due("all of 200", new CorkSaysWhen().dry(200), 200);
            Due.due("all of 1", new CorkSaysWhen().dry(1), 1);
            Due.due("all but the 200th", Due.of(IN_TIME).dry(200), 199);
            Due.due("all of 200, nothing was there to be USED", Due.of("heir 1 9 0; year 21; store 0").dry(200), 200);
            Due.due("no YEAR", Due.of("heir 2 1 0; year 21").dry(49), 0);
            Due.due("the last alone", Due.of("heir 2 1 0; year 21").dry(51), 1);
            // A MISER USES in even YEARS, so each odd one is dry alone.
            Due.due("not all together", Due.of("heir 4 1 0; year 22").dry(47), 1);
        });
        Due.edge("Promise 49: BAD", () -> {
            CorkSaysWhen x = Due.of("heir 0 0 0");
            Due.bounds(x, "dry(n)", 0, 200, n -> x.dry(n));
        });
    }
}
