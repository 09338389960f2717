import java.util.function.IntToLongFunction;
import java.util.function.LongSupplier;

/** What the tests share: answers that are due, refusals, bounds, texts for THE TAPE. */
final class Due {
    static final int BAD = -1002;
    static final int OTHER = -1003;
    static final int NOTHING = -1004;
    static final int STUCK = -1005;
    static final int FULL = -1006;

    private static int asked = 0;
    private static int wrong = 0;
    private static String sentence = "";
    private static CorkSaysWhen watched;
    private static int[] refusals;

    private Due() {
    }

    static void due(String call, long got, long want) {
        asked++;
        if (got != want) {
            tellWrong(call + " answered " + got + ", due is " + want);
        }
    }

    static void same(String call, String got, String want) {
        asked++;
        if (!got.equals(want)) {
            tellWrong(call + " left\n  " + got + "\nwhere due is\n  " + want);
        }
    }

    private static void tellWrong(String what) {
        wrong++;
        System.out.println((sentence.isEmpty() ? "" : "[" + sentence + "] ") + what);
    }

    /** A test of its own for one sentence of the document that names a boundary case. */
    static void edge(String words, Runnable test) {
        sentence = words;
        int ahead = asked;
        test.run();
        if (asked == ahead) {
            tellWrong("nothing was asked");
        }
        sentence = "";
    }

    /** The call takes all from least to most: at neither end it is refused, and BAD is what is beyond them. */
    static void bounds(CorkSaysWhen x, String call, int least, int most, IntToLongFunction answer) {
        String ahead = all(x);
        int[] counts = counts(x);
        for (int v : new int[] {least - 1, most + 1, Integer.MIN_VALUE, Integer.MAX_VALUE}) {
            due(call + " of " + v, answer.applyAsLong(v), BAD);
            counts[0]++;
        }
        same(call + " beyond its bounds", all(x), ahead);
        countsAre(x, call + " beyond its bounds", counts);
        answer.applyAsLong(least);
        answer.applyAsLong(most);
        countsAre(x, call + " at its bounds", counts);
    }

    private static void countsAre(CorkSaysWhen x, String call, int[] counts) {
        for (int i = 0; i < counts.length; i++) {
            due(call + ", then status(" + (12 + i) + ")", x.status(12 + i), counts[i]);
        }
    }

    /** The test asks for refusals alone, each by refused; but for their counts they change nothing. */
    static void unchanged(CorkSaysWhen x, Runnable test) {
        String ahead = all(x);
        watched = x;
        refusals = counts(x);
        test.run();
        countsAre(x, "what was refused", refusals);
        watched = null;
        same("what was refused", all(x), ahead);
    }

    /** The call answers the refusal, and is counted as such; asked within unchanged, which looks at all else. */
    static void refused(CorkSaysWhen x, String call, int number, LongSupplier answer) {
        if (watched != x) {
            tellWrong(call + " is not asked within unchanged");
            return;
        }
        refusals[BAD - number]++;
        due(call, answer.getAsLong(), number);
        due(call + ", then status(" + (12 + BAD - number) + ")", x.status(12 + BAD - number), refusals[BAD - number]);
    }

    private static int[] counts(CorkSaysWhen x) {
        int[] counts = new int[5];
        for (int i = 0; i < 5; i++) {
            counts[i] = x.status(12 + i);
        }
        return counts;
    }

    /** All that can be seen of an object without changing it, but the counts of refusals. */
    static String all(CorkSaysWhen x) {
        StringBuilder seen = new StringBuilder();
        for (int what = 0; what <= 9; what++) {
            seen.append(x.status(what)).append(' ');
        }
        for (int heir = 0; heir < x.status(0); heir++) {
            seen.append("| ");
            for (int what = 0; what <= 7; what++) {
                seen.append(x.heirOf(heir, what)).append(' ');
            }
        }
        seen.append("| joy ");
        for (int thing = 0; thing < 8; thing++) {
            seen.append(x.joyOf(thing)).append(' ');
        }
        for (int s = 0; s < 8; s++) {
            int held = x.holds(s);
            seen.append("| shelf ").append(held).append(": ");
            boolean isRow = held >= 0 && held < 10;
            for (int i = 0; isRow && i < 40; i++) {
                seen.append(x.element(s, i)).append(' ');
            }
        }
        return seen.toString();
    }

    static void feed(CorkSaysWhen x, String text) {
        for (int i = 0; i < text.length(); i++) {
            x.feed(text.charAt(i));
        }
    }

    static int read(CorkSaysWhen x, String text) {
        feed(x, text);
        return x.store();
    }

    /** A new object whose STORE is read from a text. */
    static CorkSaysWhen of(String text) {
        CorkSaysWhen x = new CorkSaysWhen();
        due("the STATEMENTS of " + text, read(x, text), text.split(";").length);
        return x;
    }

    /** Lays a ROW of longs with just these elements in SHELF s. */
    static void lay(CorkSaysWhen x, int s, long... elements) {
        x.row(s, 3, elements.length);
        for (int i = 0; i < elements.length; i++) {
            x.set(s, i, elements[i]);
        }
    }

    static void end(String test) {
        System.out.println(test + ": " + (wrong == 0 ? "all answers are as due" : wrong + " answers are not as due"));
        if (wrong != 0) {
            System.exit(1);
        }
    }
}
