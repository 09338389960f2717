/** Promises 36 and 53: fits, judge. */
public final class ToldYearsTest {
    public static void main(String[] args) {
        promise36Fits();
        promise36FitsRefuses();
        promise53Judge();
        promise53JudgeRefuses();
        Due.end("ToldYearsTest");
    }

    private static void promise36Fits() {
        // One YEAR behind: 60 less 6, 30, 3, 33, 0 (the YEAR is odd), 7.
        CorkSaysWhen x = Due.of("heir 0 3 0; heir 2 0 999; year 21");
        int[] has = {54, 30, 57, 27, 60, 53, 55};
        int[] kinds = {1, 2, 4, 8, 16, 32, 0};
        for (int i = 0; i < has.length; i++) {
            Due.lay(x, 0, has[i]);
            Due.due("KINDS for " + has[i], x.fits(0, 1, 0, 0), kinds[i]);
        }
        Due.lay(x, 0, 60, 57, 57, 99);
        Due.due("a MISER for three YEARS", x.fits(0, 3, 0, 0), 16);
        Due.due("not for four", x.fits(0, 4, 0, 0), 0);
        Due.due("a is nothing to an HEIR", x.fits(0, 1, 0, 1), 0);
        Due.lay(x, 0, 54, 48);
        Due.due("a is nothing to an HEIR", x.fits(0, 2, 0, 1), 1023);
        Due.lay(x, 0, 0);
        Due.due("all KINDS", x.fits(0, 1, 1, 0), 63);
        Due.due("all As", x.fits(0, 1, 1, 1), 1023);
        CorkSaysWhen y = Due.of("heir 2 0 0; year 21");
        for (int a = 0; a < 10; a++) {
            Due.lay(y, 7, 60 - a);
            Due.due("a SAVER's a", y.fits(7, 1, 0, 1), 1 << a);
        }
        y.row(6, 3, 40);
        y.tell(0, 0);
        Due.due("40 elements", y.fits(6, 40, 0, 1), 1023);
        y.set(6, 39, 1L << 32);
        Due.due("the 40th isn't so", y.fits(6, 40, 0, 1), 0);
        Due.due("39 are", y.fits(6, 39, 0, 0), 63);
    }

    private static void promise36FitsRefuses() {
        CorkSaysWhen x = Due.of("heir 0 0 0");
        x.row(0, 3, 2);
        x.show(1, 0);
        Due.unchanged(x, () -> {
            Due.refused(x, "fits(-1, ..)", Due.BAD, () -> x.fits(-1, 1, 0, 0));
            Due.refused(x, "fits(8, ..)", Due.BAD, () -> x.fits(8, 1, 0, 0));
            Due.refused(x, "fits(1, 0, ..)", Due.BAD, () -> x.fits(1, 0, 0, 0));
            Due.refused(x, "fits(2, 41, ..)", Due.BAD, () -> x.fits(2, 41, 0, 0));
            Due.refused(x, "fits(1, 1, 1, ..)", Due.BAD, () -> x.fits(1, 1, 1, 0));
            Due.refused(x, "fits(1, 1, -1, ..)", Due.BAD, () -> x.fits(1, 1, -1, 0));
            Due.refused(x, "fits(2, 1, 0, 2)", Due.BAD, () -> x.fits(2, 1, 0, 2));
            Due.refused(x, "fits(2, 1, 0, -1)", Due.BAD, () -> x.fits(2, 1, 0, -1));
            Due.refused(x, "fits(1, 40, 0, 0)", Due.OTHER, () -> x.fits(1, 40, 0, 0));
            Due.refused(x, "fits(2, 40, 0, 0)", Due.NOTHING, () -> x.fits(2, 40, 0, 0));
            Due.refused(x, "fits(0, 3, 0, 0)", Due.BAD, () -> x.fits(0, 3, 0, 0));
        });
    }

    private static void promise53Judge() {
        CorkSaysWhen x = Due.of("heir 0 0 0; heir 0 0 1; year 20");
        Due.lay(x, 0, 660, 600, 540, 540);
        Due.due("all is so", x.judge(0, 4), -1);
        Due.due("no element", x.judge(0, 0), -1);
        Due.lay(x, 0, 660, 600, 541, 0);
        Due.due("not this", x.judge(0, 4), 2);
        Due.due("ahead of it all is so", x.judge(0, 2), -1);
        Due.lay(x, 0, 0);
        Due.due("the first", x.judge(0, 1), 0);
        Due.lay(x, 0, 660L + (1L << 32));
        Due.due("a long", x.judge(0, 1), 0);
        Due.due("NONE isn't refused", x.status(12), 0);
        CorkSaysWhen y = new CorkSaysWhen();
        y.row(0, 2, 40);
        for (int i = 0; i < 40; i++) {
            y.set(0, i, i < 39 ? 660 : 661);
        }
        Due.due("the 40th", y.judge(0, 40), 39);
    }

    private static void promise53JudgeRefuses() {
        CorkSaysWhen x = Due.of("heir 0 0 0");
        x.row(0, 3, 2);
        x.show(1, 0);
        Due.unchanged(x, () -> {
            Due.refused(x, "judge(-1, 0)", Due.BAD, () -> x.judge(-1, 0));
            Due.refused(x, "judge(8, 0)", Due.BAD, () -> x.judge(8, 0));
            Due.refused(x, "judge(1, 41)", Due.BAD, () -> x.judge(1, 41));
            Due.refused(x, "judge(2, -1)", Due.BAD, () -> x.judge(2, -1));
            Due.refused(x, "judge(1, 40)", Due.OTHER, () -> x.judge(1, 40));
            Due.refused(x, "judge(2, 40)", Due.NOTHING, () -> x.judge(2, 40));
            Due.refused(x, "judge(2, 0)", Due.NOTHING, () -> x.judge(2, 0));
            Due.refused(x, "judge(0, 3)", Due.BAD, () -> x.judge(0, 3));
        });
    }
}
