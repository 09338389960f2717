/** A YEAR, and promises 18 to 25, 37, 40 to 42, 47 to 49: what would come of it. */
public final class AheadTest {
    public static void main(String[] args) {
        promise18ComingOfAge();
        promise18Deaths();
        promise18Ahead();
        promise19Later();
        promise20Out();
        promise21Longest();
        promise22Happiest();
        promise23Fair();
        promise24Better();
        promise25Spared();
        promise37When();
        promise40Needs();
        promise41Most();
        promise42Feast();
        promise47Fairest();
        promise48Merriest();
        promise49Dry();
        nothingIsChanged();
        Due.end("AheadTest");
    }

    private static void years(String text, int n, int store, int... has) {
        CorkSaysWhen x = Due.of(text);
        Due.due(text + ": STORE behind " + n, x.ahead(n, 0), store);
        int sum = 0;
        for (int heir = 0; heir < has.length; heir++) {
            Due.due(text + ": " + heir + " HAS behind " + n, x.later(heir, n, 0), has[heir]);
            sum += has[heir];
        }
        Due.due(text + ": all HAVE behind " + n, x.ahead(n, 2), sum);
    }

    private static void promise18ComingOfAge() {
        years("heir 2 0 0; year 20", 1, 660, 0);
        years("heir 2 0 0; year 20", 2, 600, 60);
        years("heir 2 0 0; year 21", 0, 660, 0);
        years("heir 2 0 0; year 21; store 59", 1, 0, 59);
        years("heir 2 0 0; year 21; has 0 5", 1, 600, 65);
        years("heir 2 0 0; heir 2 0 0; year 22; store 100", 1, 0, 60, 40);
        // A tenth upward, one behind the other: 66 of 655, 59 of 589.
        years("heir 2 0 0; heir 2 0 1; year 22; store 655; rule 1", 1, 530, 66, 59);
        // Even: 33 of 100 for one of three, 33 of 67 for one of two; who isn't OF AGE yet counts.
        years("heir 2 0 0; heir 2 0 9; heir 2 0 0; year 22; store 100; rule 2", 1, 34, 33, 0, 33);
        // The six KINDS each USE of 60 in an even YEAR: 6, 30, 3, 33, 3, 7.
        String kinds = "heir 0 3 0; heir 1 3 0; heir 2 3 0; heir 3 3 0; heir 4 3 0; heir 5 3 0; year ";
        years(kinds + "22", 1, 300, 54, 30, 57, 27, 57, 53);
        years(kinds + "21", 1, 300, 54, 30, 57, 27, 60, 53);
    }

    private static void promise18Deaths() {
        // At 70 one comes OF AGE, USES and dies within one YEAR.
        years("heir 2 0 0; year 69", 1, 600, 60);
        years("heir 2 0 0; year 70", 1, 660, 0);
        years("heir 2 9 0; year 70", 1, 651, 0);
        years("heir 2 0 0; year 70; has 0 100; child 2 0 60 0; child 2 0 61 0; child 2 0 62 0", 1, 601, 0, 53, 53, 53);
        // Heir 1 gets all from heir 0, and leaves it to heir 2 within the same YEAR.
        years("heir 2 0 0; child 2 0 0 0; child 2 0 60 1; year 70; has 0 7; store 0", 1, 0, 0, 0, 7);
        // Of those FROM heir 0 one is DEAD already, as they die by numbers.
        CorkSaysWhen x = Due.of("heir 2 0 60; child 2 0 0 0; child 2 0 70 0; year 81; store 0");
        x.years(1);
        Due.due("heir 1 is DEAD", x.heirOf(1, 6), 2);
        Due.due("has 0 41", Due.read(x, "has 0 41; year 130"), 2);
        Due.due("heir 2 HAS all", x.later(2, 1, 0), 41);
        // STORE has no room for more than 9999.
        x.tell(0, 9990);
        Due.read(x, "has 2 50; has 0 0; year 140");
        Due.due("STORE is 9999 at most", x.ahead(1, 0), 9999);
        x.tell(0, 9940);
        Due.due("STORE gets 50", x.ahead(1, 0), 9990);
        // YEAR 999 stays: nobody comes OF AGE any more.
        CorkSaysWhen end = Due.of("heir 2 0 979; year 998");
        Due.due("YEAR 999 stays", end.ahead(200, 0), 660);
        end.years(60);
        Due.due("YEAR", end.status(2), 999);
        Due.due("AGE", end.heirOf(0, 7), 20);
    }

    private static void promise18Ahead() {
        CorkSaysWhen x = Due.of("heir 2 0 0; heir 2 0 10; heir 2 0 300; year 20");
        int[] years = {0, 1, 2, 11, 12, 50, 51, 60, 61, 200};
        int[] ofAge = {0, 0, 1, 1, 2, 2, 1, 1, 0, 0};
        for (int i = 0; i < years.length; i++) {
            Due.due("ahead(" + years[i] + ", 1)", x.ahead(years[i], 1), ofAge[i]);
        }
        Due.due("ahead(2, 2)", x.ahead(2, 2), 60);
        Due.due("ahead(12, 2)", x.ahead(12, 2), 120);
        Due.unchanged(x, () -> {
            for (int what = 0; what < 3; what++) {
                int w = what;
                Due.refused(x, "ahead(201, ..)", Due.BAD, () -> x.ahead(201, w));
                Due.refused(x, "ahead(-1, ..)", Due.BAD, () -> x.ahead(-1, w));
            }
            Due.refused(x, "ahead(0, 3)", Due.BAD, () -> x.ahead(0, 3));
            Due.refused(x, "ahead(0, -1)", Due.BAD, () -> x.ahead(0, -1));
        });
    }

    private static void promise19Later() {
        CorkSaysWhen x = Due.of("heir 0 0 0; has 0 100; year 21");
        x.years(1);
        // 160 less 16 are 144; then 15, 13, 12 are USED.
        Due.due("USED so far", x.heirOf(0, 5), 16);
        int[] used = {0, 15, 28, 40};
        for (int n = 0; n < 4; n++) {
            Due.due("USED from now on, " + n, x.later(0, n, 1), used[n]);
            Due.due("HAS, " + n, x.later(0, n, 0), 144 - used[n]);
        }
        Due.due("how he is", x.later(0, 48, 2), 1);
        Due.due("how he is", x.later(0, 49, 2), 2);
        Due.due("how he is", x.later(0, 200, 2), 2);
        Due.due("YOUNG", Due.of("heir 0 0 0").later(0, 21, 2), 0);
        Due.due("OF AGE", Due.of("heir 0 0 0").later(0, 22, 2), 1);
        Due.unchanged(x, () -> {
            Due.refused(x, "later(1, 0, 0)", Due.BAD, () -> x.later(1, 0, 0));
            Due.refused(x, "later(-1, 0, 0)", Due.BAD, () -> x.later(-1, 0, 0));
            Due.refused(x, "later(0, 201, 0)", Due.BAD, () -> x.later(0, 201, 0));
            Due.refused(x, "later(0, -1, 0)", Due.BAD, () -> x.later(0, -1, 0));
            Due.refused(x, "later(0, 0, 3)", Due.BAD, () -> x.later(0, 0, 3));
            Due.refused(x, "later(0, 0, -1)", Due.BAD, () -> x.later(0, 0, -1));
        });
    }

    private static void promise20Out() {
        Due.due("the second takes the last", Due.of("heir 0 0 0; heir 0 0 5; year 20; store 120").out(), 7);
        Due.due("one is left", Due.of("heir 0 0 0; heir 0 0 5; year 20; store 121").out(), -1);
        Due.due("now", Due.of("heir 0 0 0; store 0").out(), 0);
        Due.due("behind 200", Due.of("heir 0 0 178; store 60").out(), 200);
        CorkSaysWhen x = Due.of("heir 0 0 179; store 60");
        Due.due("behind 201", x.out(), -1);
        Due.due("NONE isn't refused", x.status(12) + x.status(15), 0);
        x.tell(1, 1);
        Due.due("a YEAR later", x.out(), 200);
        x.ahead(200, 0);
        Due.due("behind a look ahead", x.out(), 200);
    }

    private static void promise21Longest() {
        Due.due("a tenth", Due.of("heir 0 0 0; year 21; store 60; rule 2").longest(), 1);
        Due.due("even", Due.of("heir 0 0 0; heir 0 0 10; year 21; store 1; rule 0").longest(), 2);
        Due.due("thimble, of several the least", Due.of("heir 0 0 0; year 21; store 61; rule 1").longest(), 0);
        Due.due("all at once", Due.of("store 0; rule 2").longest(), 0);
        Due.due("all as late", Due.of("heir 0 0 0; year 21; store 1; rule 2").longest(), 0);
    }

    private static void promise22Happiest() {
        CorkSaysWhen x = Due.of("heir 2 5 0; heir 2 9 1; heir 2 9 1; year 21");
        // In the YEARS 21 and 22: heir 0 USES 5 and 5, heirs 1 and 2 USE 9 in the second.
        int[] who = {0, 0, 0, 1};
        int[] much = {0, 5, 10, 18};
        for (int n = 0; n < 4; n++) {
            Due.due("happiest(" + n + ", 0)", x.happiest(n, 0), who[n]);
            Due.due("happiest(" + n + ", 1)", x.happiest(n, 1), much[n]);
        }
        x.years(3);
        Due.due("from now on", x.happiest(1, 1), 9);
        Due.due("from now on", x.happiest(0, 1), 0);
        CorkSaysWhen none = new CorkSaysWhen();
        Due.unchanged(none, () -> {
            Due.refused(none, "happiest(200, 1), no HEIRS", Due.STUCK, () -> none.happiest(200, 1));
            Due.refused(none, "happiest(201, 0), no HEIRS", Due.BAD, () -> none.happiest(201, 0));
            Due.refused(none, "happiest(0, 2), no HEIRS", Due.BAD, () -> none.happiest(0, 2));
        });
        Due.unchanged(x, () -> {
            Due.refused(x, "happiest(-1, 0)", Due.BAD, () -> x.happiest(-1, 0));
            Due.refused(x, "happiest(0, -1)", Due.BAD, () -> x.happiest(0, -1));
        });
    }

    private static void promise23Fair() {
        CorkSaysWhen x = Due.of("heir 2 5 0; heir 2 9 1; heir 2 7 1; year 21");
        int[] want = {0, 5, 5 + 5 - 7, 18 - 14};
        for (int n = 0; n < 4; n++) {
            Due.due("fair(" + n + ")", x.fair(n), want[n]);
        }
        Due.due("one alone", Due.of("heir 1 0 0; year 21").fair(200), 0);
        Due.due("one never", Due.of("heir 2 9 0; heir 2 9 999; year 21").fair(2), 18);
        Due.due("no HEIRS", new CorkSaysWhen().fair(0), 0);
        Due.unchanged(x, () -> {
            Due.refused(x, "fair(201)", Due.BAD, () -> x.fair(201));
            Due.refused(x, "fair(-1)", Due.BAD, () -> x.fair(-1));
        });
        CorkSaysWhen none = new CorkSaysWhen();
        Due.unchanged(none, () -> {
            Due.refused(none, "fair(201), no HEIRS", Due.BAD, () -> none.fair(201));
        });
    }

    /** Heir 0 dies in the YEAR 70, and what he HAS comes to STORE then; heir 1 wants 60 in the YEAR 71. */
    private static final String LATE = "heir 1 2 0; heir 2 0 50; year 69; store 61";

    private static void promise24Better() {
        CorkSaysWhen x = Due.of(LATE);
        // STORE is 1, then 1 and what heir 0 keeps of 60 in two YEARS, less 60 in the YEAR 71:
        // an HEIR keeps 48, a SAVER 56, a MISER 58 of them, and nobody all: OUT behind 3 YEARS.
        Due.due("out()", x.out(), 3);
        Due.due("by none it's later", x.better(0), 0);
        Due.read(x, "has 0 2");
        // A SAVER (2) keeps 58 of 62 now, so 59; a MISER keeps 60, so 61: one is left.
        Due.due("MISER", x.better(0), 4);
        Due.read(x, "has 0 4");
        Due.due("SAVER, of several the least", x.better(0), 2);
        Due.read(x, "has 0 99");
        Due.due("HEIR, of several the least", x.better(0), 0);
        Due.due("the one who takes the last", x.better(1), 0);
        Due.unchanged(x, () -> {
            Due.refused(x, "better(2)", Due.BAD, () -> x.better(2));
            Due.refused(x, "better(-1)", Due.BAD, () -> x.better(-1));
        });
        Due.due("never 0, of several the least", Due.of("heir 0 0 0; year 21").better(0), 0);
        // STORE is 0 but for what two FROM him can't halve: an EXPERT leaves 53, all others an even number.
        String halved = "year 70; heir 0 0 0; child 0 0 49 0; child 0 0 69 0; store 80";
        Due.due("EXPERT", Due.of(halved).better(0), 5);
    }

    private static void promise25Spared() {
        Due.due("the first of those without whom it lasts", Due.of("heir 0 0 300; heir 0 0 0; heir 0 0 5; year 21; store 120").spared(), 1);
        Due.due("the later", Due.of("heir 0 0 0; heir 0 0 5; year 21; store 60").spared(), 0);
        Due.due("nobody matters", Due.of("heir 0 0 0; heir 0 0 5; year 21; store 999").spared(), 0);
        // What heir 1 HAS would come to STORE, being 70; being nobody's, it doesn't.
        CorkSaysWhen x = Due.of("heir 2 0 51; heir 2 0 2; year 72; store 60; has 1 40");
        // Without heir 0: 60 are taken, and come back with 40 more: STORE isn't 0 at all.
        Due.due("spared()", x.spared(), 0);
        CorkSaysWhen y = Due.of("heir 2 0 0; heir 2 0 60; year 79; has 0 40; store 30");
        // Heir 0 takes 30 and dies with 70; heir 1 would take 60 of these behind 3 YEARS: 10 are left.
        // Without heir 0 the 30 go to heir 1: OUT behind 3. Without heir 1 nothing is taken but by heir 0.
        Due.due("spared()", y.spared(), 1);
        // Heir 1 dies in the YEAR 72 with 110: they come to STORE, if heir 2, FROM him, is DEAD.
        // Without heir 0 STORE is 1 then, and heir 3 takes it in the YEAR 74.
        CorkSaysWhen z = Due.of("heir 2 0 51; heir 2 0 2; child 2 0 50 1; heir 2 0 53; year 69; has 1 50; store 121");
        z.years(1);
        Due.due("spared()", z.spared(), 2);
        CorkSaysWhen none = new CorkSaysWhen();
        Due.unchanged(none, () -> {
            Due.refused(none, "spared(), no HEIRS", Due.STUCK, () -> none.spared());
        });
    }

    private static void promise37When() {
        CorkSaysWhen x = Due.of("heir 0 0 0; heir 0 0 178; heir 0 0 179; heir 0 0 129; heir 0 0 130");
        int[][] want = {{22, 71}, {200, -1}, {-1, -1}, {151, 200}, {152, -1}};
        for (int heir = 0; heir < 5; heir++) {
            for (int what = 0; what < 2; what++) {
                Due.due("when(" + heir + ", " + what + ")", x.when(heir, what), want[heir][what]);
            }
        }
        Due.due("NONE isn't refused", x.status(12), 0);
        x.tell(1, 70);
        Due.due("OF AGE and DEAD within one YEAR", x.when(0, 0), 1);
        Due.due("OF AGE and DEAD within one YEAR", x.when(0, 1), 1);
        x.years(1);
        Due.due("has been OF AGE", x.when(0, 0), 0);
        Due.due("is DEAD", x.when(0, 1), 0);
        Due.unchanged(x, () -> {
            Due.refused(x, "when(5, 0)", Due.BAD, () -> x.when(5, 0));
            Due.refused(x, "when(-1, 0)", Due.BAD, () -> x.when(-1, 0));
            Due.refused(x, "when(0, 2)", Due.BAD, () -> x.when(0, 2));
            Due.refused(x, "when(0, -1)", Due.BAD, () -> x.when(0, -1));
        });
    }

    private static void promise40Needs() {
        CorkSaysWhen x = Due.of("heir 0 0 0; heir 0 0 5; year 20");
        // Out is later than t, if STORE isn't 0 behind each of 0 to t YEARS.
        int[] t = {0, 1, 2, 6, 7, 49, 60};
        int[] want = {1, 1, 61, 61, 121, 121, 121};
        for (int i = 0; i < t.length; i++) {
            Due.due("needs(" + t[i] + ")", x.needs(t[i]), want[i]);
        }
        x.tell(2, 2);
        Due.due("even: the first", x.needs(6), 1);
        Due.due("even: the last takes all", x.needs(7), -1);
        Due.due("NONE isn't refused", x.status(12) + x.status(15), 0);
        x.tell(2, 1);
        Due.due("a tenth", x.needs(60), 3);
        CorkSaysWhen ten = Due.of("heir 0 0 0; heir 0 0 0; heir 0 0 0; heir 0 0 0; heir 0 0 0; heir 0 0 0; heir 0 0 0; heir 0 0 0; heir 0 0 0; heir 0 0 0; year 21");
        Due.due("ten", ten.needs(60), 601);
        Due.unchanged(x, () -> {
            Due.refused(x, "needs(61)", Due.BAD, () -> x.needs(61));
            Due.refused(x, "needs(-1)", Due.BAD, () -> x.needs(-1));
        });
    }

    private static void promise41Most() {
        Due.due("two of three at once", Due.of("heir 0 0 0; heir 0 0 10; heir 0 0 80; year 20").most(), 2);
        Due.due("one dies in the YEAR in which the other comes", Due.of("heir 0 0 0; heir 0 0 49; year 20").most(), 1);
        Due.due("one dies behind it", Due.of("heir 0 0 0; heir 0 0 48; year 20").most(), 2);
        Due.due("within one YEAR", Due.of("heir 0 0 0; year 70").most(), 0);
        Due.due("behind 200", Due.of("heir 0 0 178").most(), 1);
        Due.due("behind 201", Due.of("heir 0 0 179").most(), 0);
        CorkSaysWhen x = Due.of("heir 0 0 0; year 69");
        x.years(1);
        Due.due("now", x.most(), 1);
        x.ahead(200, 0);
        Due.due("behind a look ahead", x.most(), 1);
        x.years(1);
        Due.due("not behind it", x.most(), 0);
        Due.due("none", new CorkSaysWhen().most(), 0);
    }

    private static void promise42Feast() {
        CorkSaysWhen x = Due.of("heir 2 5 0; heir 2 9 2; heir 2 0 3; year 20");
        // From now: 0, 5, 5, 14, 14, ..
        int[] n = {1, 2, 3, 4, 6, 200};
        int[] which = {0, 1, 1, 3, 3, 3};
        int[] much = {0, 5, 5, 14, 14, 14};
        for (int i = 0; i < n.length; i++) {
            Due.due("feast(" + n[i] + ", 0)", x.feast(n[i], 0), which[i]);
            Due.due("feast(" + n[i] + ", 1)", x.feast(n[i], 1), much[i]);
        }
        Due.unchanged(x, () -> {
            Due.refused(x, "feast(0, 0)", Due.BAD, () -> x.feast(0, 0));
            Due.refused(x, "feast(201, 0)", Due.BAD, () -> x.feast(201, 0));
            Due.refused(x, "feast(1, 2)", Due.BAD, () -> x.feast(1, 2));
            Due.refused(x, "feast(1, -1)", Due.BAD, () -> x.feast(1, -1));
        });
    }

    private static void promise47Fairest() {
        // Two SPENDERS at once, STORE 100: 60 and 40, 10 and 9, 50 and 50; they USE 30 and 20, 5 and 5, 25 and 25.
        CorkSaysWhen x = Due.of("heir 1 0 0; heir 1 0 0; year 21; store 100");
        Due.due("a tenth", x.fairest(1), 1);
        Due.due("nothing yet", x.fairest(0), 0);
        // Of 200: 60 and 60.
        x.tell(0, 200);
        Due.due("thimble", x.fairest(1), 0);
        // Of 10: 10 and 0, 1 and 1, 5 and 5; with five each of the two has as much by a tenth and even.
        x.tell(0, 30);
        // 30 and 0; 3 and 3 (2 and 2); 15 and 15 (8 and 8).
        Due.due("of several the least", x.fairest(1), 1);
        x.tell(0, 95);
        // 60 and 35 (30, 18); 10 and 9 (5, 5); all of it USED: 60 and 35, 10 and 9, 47 and 48.
        Due.due("all of it", x.fairest(30), 1);
        x.tell(0, 104);
        // All of it USED: 60 and 44; 11 and 10; 52 and 52.
        Due.due("even", x.fairest(30), 2);
        Due.due("no HEIRS", new CorkSaysWhen().fairest(200), 0);
        Due.unchanged(x, () -> {
            Due.refused(x, "fairest(201)", Due.BAD, () -> x.fairest(201));
            Due.refused(x, "fairest(-1)", Due.BAD, () -> x.fairest(-1));
        });
    }

    private static void promise48Merriest() {
        CorkSaysWhen x = Due.of("heir 0 0 0; heir 0 9 0; heir 0 0 999; year 21; has 0 40");
        Due.due("SPENDER: 50 of 100", x.merriest(0, 1), 1);
        Due.due("nothing yet", x.merriest(0, 0), 0);
        Due.due("RIDER: 39 of 60", x.merriest(1, 1), 3);
        Due.due("EXPERT: 2 of 2", Due.of("heir 1 0 0; year 21; store 0; has 0 2").merriest(0, 1), 5);
        Due.due("never OF AGE", x.merriest(2, 200), 0);
        Due.due("all USED in the end", x.merriest(1, 49), 0);
        Due.due("all USED by 20 YEARS", x.merriest(1, 20), 1);
        Due.unchanged(x, () -> {
            Due.refused(x, "merriest(3, 0)", Due.BAD, () -> x.merriest(3, 0));
            Due.refused(x, "merriest(-1, 0)", Due.BAD, () -> x.merriest(-1, 0));
            Due.refused(x, "merriest(0, 201)", Due.BAD, () -> x.merriest(0, 201));
            Due.refused(x, "merriest(0, -1)", Due.BAD, () -> x.merriest(0, -1));
        });
    }

    private static void promise49Dry() {
        // A MISER USES in even YEARS; from 22 on, to 68.
        CorkSaysWhen x = Due.of("heir 4 1 0; year 20");
        int[] n = {0, 1, 2, 3, 4, 49, 51, 52, 53, 200};
        int[] want = {0, 1, 2, 2, 2, 2, 2, 2, 2, 149};
        for (int i = 0; i < n.length; i++) {
            Due.due("dry(" + n[i] + ")", x.dry(n[i]), want[i]);
        }
        Due.due("all", new CorkSaysWhen().dry(200), 200);
        Due.unchanged(x, () -> {
            Due.refused(x, "dry(201)", Due.BAD, () -> x.dry(201));
            Due.refused(x, "dry(-1)", Due.BAD, () -> x.dry(-1));
        });
    }

    private static void nothingIsChanged() {
        CorkSaysWhen x = Due.of("heir 1 3 0; child 4 4 5 0; heir 5 0 2; has 0 7; year 19; rule 2; store 300");
        x.years(3);
        x.row(0, 3, 1);
        String ahead = Due.all(x);
        x.ahead(99, 0);
        x.later(0, 99, 1);
        x.out();
        x.longest();
        x.happiest(99, 1);
        x.fair(99);
        x.better(0);
        x.spared();
        x.when(0, 1);
        x.needs(60);
        x.most();
        x.feast(99, 1);
        x.fairest(99);
        x.merriest(0, 99);
        x.dry(99);
        x.fits(0, 1, 0, 1);
        x.judge(0, 1);
        Due.same("looking ahead", Due.all(x), ahead);
    }
}
