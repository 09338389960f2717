/** Promises 30, 31, 50, 51: was, mayBe, likely, ask. */
public final class OpinionsTest {
    public static void main(String[] args) {
        promise30Was();
        promise31MayBe();
        promise50Likely();
        promise51Ask();
        booleansAreNumbers();
        refusals();
        Due.end("OpinionsTest");
    }

    /** For THING 0: there twice, not there once; 1: once and once; 7: there once; 2: not there once. */
    private static CorkSaysWhen told() {
        CorkSaysWhen x = new CorkSaysWhen();
        Due.lay(x, 0, 0, 1, 0, 1, 0, 0, 1, 1, 1, 0, 7, 1, 2, 0);
        return x;
    }

    private static void promise30Was() {
        CorkSaysWhen x = told();
        int[] sets = {0, 1, 1, 1, 3, 1, 129, 129};
        int[] against = {0, 0, 0, 1, 1, 2, 2, 2};
        for (int n = 0; n < 8; n++) {
            Due.due("was(0, " + n + ", 0)", x.was(0, n, 0), sets[n]);
            Due.due("was(0, " + n + ", 1)", x.was(0, n, 1), against[n]);
        }
        CorkSaysWhen all = new CorkSaysWhen();
        all.row(5, 0, 40);
        for (int i = 0; i < 20; i++) {
            all.set(5, 2 * i, i % 8);
            all.set(5, 2 * i + 1, 1);
        }
        Due.due("20 twos", all.was(5, 20, 0), 255);
        Due.due("20 twos", all.was(5, 20, 1), 0);
        Due.due("19 of them", all.mayBe(5, 19, 0), 1);
    }

    private static void promise31MayBe() {
        CorkSaysWhen x = told();
        // THINGS 3 to 6 are free (16 sets); 0 costs 1 or 2, 1 costs 1, 7 and 2 cost 0 or 1.
        int[] want = {0, 0, 32, 32 * 4, 32 * 7, 256, 256};
        for (int k = 0; k < want.length; k++) {
            Due.due("mayBe(0, 7, " + k + ")", x.mayBe(0, 7, k), want[k]);
        }
        Due.due("mayBe(0, 0, 0)", x.mayBe(0, 0, 0), 256);
        Due.due("mayBe(0, 1, 0)", x.mayBe(0, 1, 0), 128);
        Due.due("mayBe(0, 7, 20)", x.mayBe(0, 7, 20), 256);
        Due.unchanged(x, () -> {
            Due.refused(x, "mayBe(0, 7, 21)", Due.BAD, () -> x.mayBe(0, 7, 21));
            Due.refused(x, "mayBe(0, 7, -1)", Due.BAD, () -> x.mayBe(0, 7, -1));
        });
    }

    private static void promise50Likely() {
        CorkSaysWhen x = told();
        int[] want = {1000000, 500000, 0, 500000, 500000, 500000, 500000, 1000000};
        for (int thing = 0; thing < 8; thing++) {
            Due.due("likely(0, 7, " + thing + ")", x.likely(0, 7, thing), want[thing]);
            Due.due("likely(0, 0, " + thing + ")", x.likely(0, 0, thing), 500000);
        }
        Due.lay(x, 1, 0, 1, 1, 0, 2, 1, 3, 0, 4, 1, 5, 0, 6, 1, 7, 0);
        for (int thing = 0; thing < 8; thing++) {
            Due.due("of one set: likely(1, 8, " + thing + ")", x.likely(1, 8, thing), thing % 2 == 0 ? 1000000 : 0);
        }
        Due.unchanged(x, () -> {
            Due.refused(x, "likely(0, 7, 8)", Due.BAD, () -> x.likely(0, 7, 8));
            Due.refused(x, "likely(0, 7, -1)", Due.BAD, () -> x.likely(0, 7, -1));
        });
    }

    private static void promise51Ask() {
        CorkSaysWhen x = told();
        int[] want = {0, 1, 1, 1, 2, 1, 1, 1};
        for (int n = 0; n < 8; n++) {
            Due.due("ask(0, " + n + ")", x.ask(0, n), want[n]);
        }
        Due.lay(x, 1, 0, 1, 1, 0, 2, 1, 3, 0, 4, 1, 5, 0, 6, 1, 7, 0);
        Due.due("THING 7 parts them", x.ask(1, 7), 7);
        Due.due("none parts them", x.ask(1, 8), -1);
        Due.due("it was", x.was(1, 8, 0), 0b01010101);
        Due.due("NONE isn't refused", x.status(12) + x.status(15), 0);
    }

    private static void booleansAreNumbers() {
        CorkSaysWhen x = new CorkSaysWhen();
        x.row(0, 4, 4);
        x.set(0, 0, 1);
        x.set(0, 1, 1);
        Due.due("THING 1 was there, THING 0 wasn't", x.was(0, 2, 0), 2);
        Due.due("of those, how many", x.mayBe(0, 2, 0), 64);
    }

    private static void refusals() {
        CorkSaysWhen x = Due.of("heir 0 0 0");
        x.show(1, 0);
        Due.lay(x, 0, 0, 1, 7);
        Due.unchanged(x, () -> {
            refused(x, Due.BAD, -1, 0);
            refused(x, Due.BAD, 8, 0);
            refused(x, Due.BAD, 1, 21);
            refused(x, Due.BAD, 1, -1);
            refused(x, Due.OTHER, 1, 20);
            refused(x, Due.NOTHING, 2, 20);
            refused(x, Due.BAD, 2, 21);
            refused(x, Due.BAD, 0, 2);
            Due.refused(x, "was(2, 0, 2)", Due.BAD, () -> x.was(2, 0, 2));
            Due.refused(x, "was(2, 0, -1)", Due.BAD, () -> x.was(2, 0, -1));
            Due.refused(x, "mayBe(2, 0, 21)", Due.BAD, () -> x.mayBe(2, 0, 21));
            Due.refused(x, "likely(2, 0, 8)", Due.BAD, () -> x.likely(2, 0, 8));
        });
        refusedFor(Due.BAD, 21, new long[40]);
        refusedFor(Due.BAD, -1, new long[40]);
        refusedFor(Due.BAD, 3, new long[5]);
        refusedFor(Due.BAD, 2, new long[2]);
        refusedFor(Due.BAD, 20, 8, 0, 0, 0);
        refusedFor(Due.STUCK, 2, 8, 0, 0, 0);
        refusedFor(Due.STUCK, 1, -1, 0, 0, 0);
        refusedFor(Due.STUCK, 1, 0, 2, 0, 0);
        refusedFor(Due.STUCK, 2, 0, 0, 0, -1);
        refusedFor(Due.STUCK, 1, 4294967296L, 0);
        refusedFor(Due.STUCK, 1, 0, 4294967297L);
    }

    /** Refused for the first n of these twos. */
    private static void refusedFor(int number, int n, long... twos) {
        CorkSaysWhen x = new CorkSaysWhen();
        Due.lay(x, 7, twos);
        Due.unchanged(x, () -> refused(x, number, 7, n));
        Due.due("none of them is refused", x.was(7, 0, 0), 0);
    }

    private static void refused(CorkSaysWhen x, int number, int s, int n) {
        String told = "(" + s + ", " + n + ", ..)";
        Due.refused(x, "was" + told, number, () -> x.was(s, n, 0));
        Due.refused(x, "mayBe" + told, number, () -> x.mayBe(s, n, 0));
        Due.refused(x, "likely" + told, number, () -> x.likely(s, n, 0));
        Due.refused(x, "ask" + told, number, () -> x.ask(s, n));
    }
}
