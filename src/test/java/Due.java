import java.util.function.LongSupplier;

/** What the tests share: answers that are due, refusals, texts for THE TAPE. */
final class Due {
    static final int BAD = -1002;
    static final int OTHER = -1003;
    static final int NOTHING = -1004;
    static final int STUCK = -1005;
    static final int FULL = -1006;

    private static int wrong = 0;

    private Due() {
    }

    static void due(String call, long got, long want) {
        if (got != want) {
            wrong++;
            System.out.println(call + " answered " + got + ", due is " + want);
        }
    }

    static void same(String call, String got, String want) {
        if (!got.equals(want)) {
            wrong++;
            System.out.println(call + " left\n  " + got + "\nwhere due is\n  " + want);
        }
    }

    /** The call answers the refusal, it alone is counted, and nothing else changes. */
    static void refused(CorkSaysWhen x, String call, int number, LongSupplier answer) {
        String ahead = all(x);
        int[] counts = counts(x);
        due(call, answer.getAsLong(), number);
        counts[BAD - number]++;
        same(call, all(x), ahead);
        for (int i = 0; i < counts.length; i++) {
            due(call + ", then status(" + (12 + i) + ")", x.status(12 + i), counts[i]);
        }
    }

    private static int[] counts(CorkSaysWhen x) {
        int[] counts = new int[5];
        for (int i = 0; i < 5; i++) {
            counts[i] = x.status(12 + i);
        }
        return counts;
    }

    /** All that can be seen of an object without changing it, but the counts of refusals. */
    static String all(CorkSaysWhen x) {
        StringBuilder seen = new StringBuilder();
        for (int what = 0; what <= 9; what++) {
            seen.append(x.status(what)).append(' ');
        }
        for (int heir = 0; heir < x.status(0); heir++) {
            seen.append("| ");
            for (int what = 0; what <= 7; what++) {
                seen.append(x.heirOf(heir, what)).append(' ');
            }
        }
        seen.append("| joy ");
        for (int thing = 0; thing < 8; thing++) {
            seen.append(x.joyOf(thing)).append(' ');
        }
        for (int s = 0; s < 8; s++) {
            seen.append("| shelf ").append(x.holds(s)).append(": ");
            for (int i = 0; i < 40; i++) {
                seen.append(x.element(s, i)).append(' ');
            }
        }
        return seen.toString();
    }

    static void feed(CorkSaysWhen x, String text) {
        for (int i = 0; i < text.length(); i++) {
            x.feed(text.charAt(i));
        }
    }

    static int read(CorkSaysWhen x, String text) {
        feed(x, text);
        return x.store();
    }

    /** A new object whose STORE is read from a text. */
    static CorkSaysWhen of(String text) {
        CorkSaysWhen x = new CorkSaysWhen();
        due("the STATEMENTS of " + text, read(x, text), text.split(";").length);
        return x;
    }

    /** Lays a ROW of longs with just these elements in SHELF s. */
    static void lay(CorkSaysWhen x, int s, long... elements) {
        x.row(s, 3, elements.length);
        for (int i = 0; i < elements.length; i++) {
            x.set(s, i, elements[i]);
        }
    }

    static void end(String test) {
        System.out.println(test + ": " + (wrong == 0 ? "all answers are as due" : wrong + " answers are not as due"));
        if (wrong != 0) {
            System.exit(1);
        }
    }
}
