/** Promises 32 to 35: made, best, last, odds. */
public final class SetsTest {
    public static void main(String[] args) {
        promise32Made();
        promise33Best();
        promise34Last();
        promise35Odds();
        Due.end("SetsTest");
    }

    private static void promise32Made() {
        CorkSaysWhen x = new CorkSaysWhen();
        // JOY is 1 to 8 of THINGS 0 to 7.
        int[][] want = {{0, 0}, {1, 1}, {5, 16}, {8, 128}, {9, 24}, {15, 192}, {16, 88}, {36, 255}, {37, -1}, {99, -1}};
        for (int[] made : want) {
            Due.due("made(" + made[0] + ")", x.made(made[0]), made[1]);
        }
        Due.due("NONE isn't refused", x.status(12), 0);
        x.joy(7, 0);
        x.joy(0, 9);
        Due.due("made(9)", x.made(9), 1);
        Due.due("made(10)", x.made(10), 3);
        Due.unchanged(x, () -> {
            Due.refused(x, "made(-1)", Due.BAD, () -> x.made(-1));
            Due.refused(x, "made(100)", Due.BAD, () -> x.made(100));
        });
    }

    private static void promise33Best() {
        CorkSaysWhen x = new CorkSaysWhen();
        int[] want = {0, 8, 15, 21, 26, 30, 33, 35, 36};
        for (int m = 0; m <= 8; m++) {
            Due.due("best(" + m + ")", x.best(m), want[m]);
        }
        x.joy(3, 9);
        x.joy(7, 0);
        Due.due("best(1)", x.best(1), 9);
        Due.due("best(2)", x.best(2), 16);
        Due.due("best(8)", x.best(8), 33);
        Due.unchanged(x, () -> {
            Due.refused(x, "best(-1)", Due.BAD, () -> x.best(-1));
            Due.refused(x, "best(9)", Due.BAD, () -> x.best(9));
        });
    }

    private static void promise34Last() {
        for (int m = 1; m <= 9; m++) {
            CorkSaysWhen x = new CorkSaysWhen();
            int[] drink = new int[201];
            for (int n = 1; n <= 200; n++) {
                for (int d = Math.min(m, n); d >= 1; d--) {
                    drink[n] = drink[n - d] == 0 ? d : drink[n];
                }
            }
            for (int n = 0; n <= 200; n += n < 25 ? 1 : 7) {
                Due.due("last(" + n + ", " + m + ", 0)", x.last(n, m, 0), drink[n]);
                Due.due("last(" + n + ", " + m + ", 1)", x.last(n, m, 1), drink[n] == 0 ? 0 : 1);
            }
        }
        CorkSaysWhen x = new CorkSaysWhen();
        Due.unchanged(x, () -> {
            Due.refused(x, "last(201, 1, 0)", Due.BAD, () -> x.last(201, 1, 0));
            Due.refused(x, "last(-1, 1, 0)", Due.BAD, () -> x.last(-1, 1, 0));
            Due.refused(x, "last(0, 0, 0)", Due.BAD, () -> x.last(0, 0, 0));
            Due.refused(x, "last(0, -1, 0)", Due.BAD, () -> x.last(0, -1, 0));
            Due.refused(x, "last(0, 10, 0)", Due.BAD, () -> x.last(0, 10, 0));
            Due.refused(x, "last(0, 1, 2)", Due.BAD, () -> x.last(0, 1, 2));
            Due.refused(x, "last(0, 1, -1)", Due.BAD, () -> x.last(0, 1, -1));
        });
    }

    private static void promise35Odds() {
        CorkSaysWhen x = Due.of("store 100");
        // t, q, how likely, the mean; a child in each of t YEARS or not.
        int[][] want = {
            {0, 0, 1000000, 100}, {0, 99, 1000000, 100}, {1, 99, 1000000, 50}, {2, 99, 750000, 25},
            {2, 50, 750000, 50}, {2, 49, 1000000, 51}, {3, 50, 500000, 31}, {12, 9, 999755, 46},
            {12, 99, 3173, 0}, {12, 0, 1000000, 100}};
        for (int[] odds : want) {
            Due.due("odds(" + odds[0] + ", " + odds[1] + ", 0)", x.odds(odds[0], odds[1], 0), odds[2]);
            Due.due("odds(" + odds[0] + ", " + odds[1] + ", 1)", x.odds(odds[0], odds[1], 1), odds[3]);
        }
        x.tell(0, 0);
        Due.due("STORE 0", x.odds(0, 0, 0), 0);
        Due.due("STORE 0", x.odds(12, 0, 1), 0);
        x.tell(0, 9999);
        Due.due("STORE 9999", x.odds(12, 99, 0), 1000000);
        Due.due("STORE 9999", x.odds(12, 99, 1), 9405);
        Due.due("STORE 9999", x.odds(12, 0, 1), 9999);
        Due.unchanged(x, () -> {
            Due.refused(x, "odds(13, 0, 0)", Due.BAD, () -> x.odds(13, 0, 0));
            Due.refused(x, "odds(-1, 0, 0)", Due.BAD, () -> x.odds(-1, 0, 0));
            Due.refused(x, "odds(0, 100, 0)", Due.BAD, () -> x.odds(0, 100, 0));
            Due.refused(x, "odds(0, -1, 0)", Due.BAD, () -> x.odds(0, -1, 0));
            Due.refused(x, "odds(0, 0, 2)", Due.BAD, () -> x.odds(0, 0, 2));
            Due.refused(x, "odds(0, 0, -1)", Due.BAD, () -> x.odds(0, 0, -1));
        });
    }
}
