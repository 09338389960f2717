import java.lang.reflect.InvocationTargetException;
import java.lang.reflect.Method;
import java.util.ArrayList;
import java.util.Arrays;
import java.util.Comparator;
import java.util.List;
import java.util.Random;

/** Random runs of calls (their seeds are fixed): the class answers as the Model does, and throws nothing. */
public final class ModelTest {
    private static final int RUNS = 300;
    private static final int CALLS = 512;
    private static final long[] WILD = {
        Integer.MIN_VALUE, Integer.MAX_VALUE, -2, -1, 256, 10000, 1000, 9999, 999, 201, 200, 61, 60, 41, 40, 21, 20, 10, 8};

    /** What each argument of a call may be at the most; letters: h an HEIR, s a SHELF, v any number. */
    private static final String[] RANGES = {
        "row s 4 40", "set s 40 v", "copy s s 12 12 12", "element s 40", "holds s", "show s h", "says s 5", "tell 2 9999",
        "joy 7 9", "feed 255", "wipe", "store", "heirOf h 7", "joyOf 7", "uses h 9999", "gets h", "ahead 200 2",
        "later h 200 2", "out", "longest", "happiest 200 1", "fair 200", "better h", "spared", "part h", "line h", "kin h h",
        "under h", "was s 20 1", "mayBe s 20 20", "made 60", "best 8", "last 200 9 1", "odds 12 99 1", "fits s 4 h 1",
        "when h 1", "who 3", "rich 1", "needs 60", "most", "feast 200 1", "steps h h", "share h 9999", "eldest 2",
        "leaves h 1", "fairest 200", "merriest h 200", "dry 200", "likely s 20 7", "ask s 20", "ofKind 5", "judge s 40",
        "born 5 9 999 h", "gives h h 9999", "years 60", "drawn 60", "seed v", "image", "back", "status 17"};

    private final Random random;
    private final CorkSaysWhen cork = new CorkSaysWhen();
    private final Model model = new Model();
    private final List<String> calls = new ArrayList<>();

    private ModelTest(long seed) {
        random = new Random(seed);
    }

    public static void main(String[] args) throws Exception {
        if (RANGES.length != methods(CorkSaysWhen.class).length) {
            System.out.println("ModelTest does not call every method");
            System.exit(1);
        }
        int runs = args.length > 0 ? Integer.parseInt(args[0]) : RUNS;
        for (int run = 0; run < runs; run++) {
            ModelTest test = new ModelTest(run);
            if (!test.run()) {
                System.out.println("ModelTest, run " + run + ": " + test.calls);
                System.exit(1);
            }
        }
        System.out.println("ModelTest: all answers are as due");
    }

    private static Method[] methods(Class<?> type) {
        Method[] all = Arrays.stream(type.getDeclaredMethods())
            .filter(m -> java.lang.reflect.Modifier.isPublic(m.getModifiers())).toArray(Method[]::new);
        Arrays.sort(all, Comparator.comparing(Method::getName));
        return all;
    }

    private boolean run() throws Exception {
        boolean isTaped = random.nextInt(3) > 0;
        while (calls.size() < CALLS) {
            int kind = random.nextInt(100);
            boolean isSo;
            if (kind < 1 && isTaped) {
                isSo = tape();
            } else if (kind < 3) {
                isSo = ledger();
            } else if (kind < 5) {
                isSo = twos();
            } else if (kind < 8) {
                isSo = call("born", random.nextInt(6), random.nextInt(10), near(), random.nextInt(11) - 1);
            } else if (kind < 10) {
                isSo = call("tell", 1, near());
            } else if (kind < 12) {
                isSo = call("tell", 0, random.nextInt(random.nextInt(5) == 0 ? 10000 : 400));
            } else if (kind < 14) {
                isSo = call("years", 1 + random.nextInt(4));
            } else {
                isSo = any();
            }
            if (!isSo) {
                return false;
            }
        }
        return true;
    }

    /** A YEAR, mostly among those in which much happens. */
    private int near() {
        return random.nextInt(random.nextInt(6) == 0 ? 1000 : 90);
    }

    private boolean any() throws Exception {
        String[] form = RANGES[random.nextInt(RANGES.length)].split(" ");
        long[] values = new long[form.length - 1];
        for (int i = 0; i < values.length; i++) {
            values[i] = random.nextInt(25) == 0 ? WILD[random.nextInt(WILD.length)] : value(form[i + 1]);
        }
        return call(form[0], values);
    }

    private long value(String range) {
        int heirs = model.status(0);
        switch (range) {
            case "h": return heirs == 0 ? random.nextInt(3) - 1 : random.nextInt(20) == 0 ? heirs : random.nextInt(heirs);
            case "s": return random.nextInt(30) == 0 ? 8 : random.nextInt(4);
            case "v": return random.nextBoolean() ? random.nextInt(10) : random.nextLong() >> random.nextInt(64);
            default:
                int most = Integer.parseInt(range);
                int how = random.nextInt(8);
                return how == 0 ? most : how == 1 ? random.nextInt(Math.min(most, 3) + 1) : random.nextInt(most + 1);
        }
    }

    private boolean call(String name, long... values) throws Exception {
        if (calls.size() == CALLS) {
            return true;
        }
        calls.add(name + Arrays.toString(values));
        Object want = answer(Model.class, model, name, values);
        Object got = answer(CorkSaysWhen.class, cork, name, values);
        boolean isSo = got.equals(want);
        if (!isSo) {
            System.out.println(name + Arrays.toString(values) + " answered " + got + ", due is " + want);
        }
        return isSo;
    }

    private static Object answer(Class<?> type, Object object, String name, long[] values) throws Exception {
        for (Method method : METHODS[type == Model.class ? 0 : 1]) {
            if (method.getName().equals(name) && method.getParameterCount() == values.length) {
                Object[] arguments = new Object[values.length];
                for (int i = 0; i < values.length; i++) {
                    boolean isLong = method.getParameterTypes()[i] == long.class;
                    if (isLong) {
                        arguments[i] = values[i];
                    } else {
                        arguments[i] = (int) values[i];
                    }
                }
                try {
                    return method.invoke(object, arguments);
                } catch (InvocationTargetException e) {
                    return e.getCause().toString();
                }
            }
        }
        return "no such method";
    }

    private static final Method[][] METHODS = {methods(Model.class), methods(CorkSaysWhen.class)};

    /** Lays a ROW of what would be, with a slip now and then, and asks for it. */
    private boolean ledger() throws Exception {
        int n = 1 + random.nextInt(8);
        int heir = model.status(0) > 0 ? random.nextInt(model.status(0)) : 0;
        boolean isStore = random.nextBoolean();
        boolean isSo = call("row", 1, 3, n);
        for (int i = 0; i < n; i++) {
            int slip = random.nextInt(12) == 0 ? 1 : 0;
            isSo &= call("set", 1, i, slip + (isStore ? model.ahead(i + 1, 0) : Math.max(0, told(heir, i + 1))));
        }
        return isSo && (isStore ? call("judge", 1, n) : call("fits", 1, n, heir, 0) && call("fits", 1, n, heir, 1));
    }

    private int told(int heir, int n) {
        return model.status(0) > heir ? model.later(heir, n, 0) : 0;
    }

    /** Lays a ROW of twos, with a wrong one now and then, and asks for it. */
    private boolean twos() throws Exception {
        int n = random.nextInt(9);
        boolean isSo = call("row", 2, random.nextInt(4), 2 * n);
        for (int i = 0; i < n; i++) {
            isSo &= call("set", 2, 2 * i, random.nextInt(random.nextInt(12) == 0 ? 9 : 8));
            isSo &= call("set", 2, 2 * i + 1, random.nextInt(random.nextInt(12) == 0 ? 3 : 2));
        }
        for (int what = 0; what < 2; what++) {
            isSo &= call("was", 2, n, what);
        }
        return isSo && call("mayBe", 2, n, random.nextInt(5)) && call("likely", 2, n, random.nextInt(8)) && call("ask", 2, n);
    }

    private static final String[] TEXTS = {
        "heir 0-5 0-9 0-99", "child 0-5 0-9 0-99 0-3", "has 0-3 0-999", "store 0-999", "year 0-99", "rule 0-2", "joy 0-7 0-9"};

    /** Feeds a text of a few STATEMENTS, mostly without a FAULT. */
    private boolean tape() throws Exception {
        StringBuilder text = new StringBuilder();
        int statements = 1 + random.nextInt(5);
        for (int i = 0; i < statements; i++) {
            text.append(i > 0 ? random.nextBoolean() ? "; " : ";" : "");
            for (String part : TEXTS[random.nextInt(TEXTS.length)].split(" ")) {
                int dash = part.indexOf('-');
                int most = dash < 0 ? 0 : Integer.parseInt(part.substring(dash + 1));
                text.append(dash < 0 ? part : " " + random.nextInt(most + (random.nextInt(30) == 0 ? 2 : 1)));
            }
        }
        if (random.nextInt(4) == 0) {
            int place = random.nextInt(text.length());
            if (random.nextBoolean()) {
                text.deleteCharAt(place);
            } else {
                text.insert(place, " 0;x9#".charAt(random.nextInt(6)));
            }
        }
        boolean isSo = call("wipe");
        for (int i = 0; i < text.length(); i++) {
            isSo &= call("feed", text.charAt(i));
        }
        return isSo && call("store");
    }
}
