import java.util.ArrayList;
import java.util.Arrays;
import java.util.List;
import java.util.function.Consumer;
import java.util.function.IntPredicate;
import java.util.function.IntUnaryOperator;
import java.util.function.ToIntFunction;
import java.util.regex.Matcher;
import java.util.regex.Pattern;
import java.util.stream.IntStream;

/** The document once more, written the long way round and without a look at the class: what ModelTest compares with. */
public final class Model {
    private static final int BAD = -1002;
    private static final int OTHER = -1003;
    private static final int NOTHING = -1004;
    private static final int STUCK = -1005;
    private static final int FULL = -1006;
    private static final int[] PARENT_KIND = {-1, 0, 0, 1, 2, 0};

    private static final class Person {
        int kind, a, from = -1, born, has, used, how;

        Person copy() {
            Person p = new Person();
            p.kind = kind; p.a = a; p.from = from; p.born = born; p.has = has; p.used = used; p.how = how;
            return p;
        }

        int drinks(int n, int year) {
            double d = n;
            int wish;
            if (kind == 0) wish = (int) Math.ceil(d / 10);
            else if (kind == 1) wish = (int) Math.ceil(d / 2);
            else if (kind == 3) wish = (int) Math.ceil(d / 2) + a;
            else if (kind == 2) wish = a;
            else if (kind == 4) wish = year % 2 == 1 ? 0 : a;
            else wish = (int) Math.ceil(d / 10) + 1;
            return wish > n ? n : wish;
        }
    }

    private static final class World {
        int store = 660, year, rule, seed = 1;
        int[] joy = {1, 2, 3, 4, 5, 6, 7, 8};
        List<Person> people = new ArrayList<>();

        World copy() {
            World w = new World();
            w.store = store; w.year = year; w.rule = rule; w.seed = seed; w.joy = joy.clone();
            for (Person p : people) w.people.add(p.copy());
            return w;
        }

        long young() {
            return people.stream().filter(p -> p.how == 0).count();
        }

        int gift() {
            int g = rule == 0 ? 60 : rule == 1 ? (int) Math.ceil(store / 10.0) : (int) (store / young());
            return g > store ? store : g;
        }

        List<Person> childrenAlive(int i) {
            List<Person> c = new ArrayList<>();
            for (Person p : people) if (p.from == i && p.how != 2) c.add(p);
            return c;
        }

        World year() {
            for (Person p : people) {
                if (p.how == 0 && year - p.born > 20) {
                    int g = gift();
                    p.how = 1;
                    p.has += g;
                    store -= g;
                }
            }
            for (Person p : people) {
                if (p.how == 1) {
                    int d = p.drinks(p.has, year);
                    p.has -= d;
                    p.used += d;
                }
            }
            for (int i = 0; i < people.size(); i++) {
                Person p = people.get(i);
                if (p.how != 1 || year - p.born < 70) continue;
                p.how = 2;
                List<Person> c = childrenAlive(i);
                int left = p.has;
                for (Person q : c) {
                    q.has += p.has / c.size();
                    left -= p.has / c.size();
                }
                p.has = 0;
                store = store + left > 9999 ? 9999 : store + left;
            }
            year = year == 999 ? 999 : year + 1;
            return this;
        }

        World years(int n) {
            for (int i = 0; i < n; i++) year();
            return this;
        }

        int used() {
            return people.stream().mapToInt(p -> p.used).sum();
        }

        /** Behind how many YEARS STORE is 0, 0 to 200; else 1000. */
        int out() {
            World w = copy();
            int n = 0;
            while (w.store != 0 && n < 201) {
                w.year();
                n++;
            }
            return n > 200 ? 1000 : n;
        }

        int draw(int below) {
            seed = seed * 1103515245 + 12345;
            return ((seed >> 16) & 65535) % below;
        }
    }

    private World now = new World();
    private World kept;
    private final Object[] shelf = new Object[8];
    private String tape = "";
    private final int[] refused = new int[5];

    private int no(int number) {
        refused[-1002 - number]++;
        return number;
    }

    private boolean bad(int v, int from, int to) {
        return v < from || v > to;
    }

    private boolean badHeir(int heir) {
        return heir < 0 || heir >= now.people.size();
    }

    /** A ROW: element 0 is its SORT. */
    private long[] rowIn(int s) {
        return shelf[s] instanceof long[] ? (long[]) shelf[s] : null;
    }

    private int noRow(int s, int least) {
        if (shelf[s] instanceof Integer) return OTHER;
        if (shelf[s] == null) return NOTHING;
        return rowIn(s).length - 1 < least ? BAD : 0;
    }

    public int row(int s, int sort, int n) {
        if (bad(s, 0, 7) || bad(sort, 0, 4) || bad(n, 0, 40)) return no(BAD);
        long[] r = new long[n + 1];
        r[0] = sort;
        shelf[s] = r;
        return 1;
    }

    public int set(int s, int i, long v) {
        if (bad(s, 0, 7)) return no(BAD);
        int no = noRow(s, 0);
        if (no != 0) return no(no);
        long[] r = rowIn(s);
        if (bad(i, 0, r.length - 2)) return no(BAD);
        int bits = new int[] {8, 16, 32, 64, 64}[(int) r[0]];
        r[i + 1] = r[0] == 4 ? (v == 0 ? 0 : 1) : v << 64 - bits >> 64 - bits;
        return 1;
    }

    public int copy(int p, int q, int i, int j, int n) {
        if (bad(p, 0, 7) || bad(q, 0, 7)) return no(BAD);
        if (shelf[p] instanceof Integer || shelf[q] instanceof Integer) return no(OTHER);
        if (shelf[p] != null && shelf[q] != null && rowIn(p)[0] != rowIn(q)[0]) return no(OTHER);
        if (shelf[p] == null || shelf[q] == null) return no(NOTHING);
        long[] from = rowIn(p).clone();
        long[] to = rowIn(q);
        if (i < 0 || j < 0 || n < 0 || (long) i + n > from.length - 1 || (long) j + n > to.length - 1) return no(BAD);
        for (int k = 1; k <= n; k++) to[j + k] = from[i + k];
        return n;
    }

    public long element(int s, int i) {
        if (bad(s, 0, 7) || rowIn(s) == null || bad(i, 0, rowIn(s).length - 2)) return 0;
        return rowIn(s)[i + 1];
    }

    public int holds(int s) {
        if (bad(s, 0, 7) || shelf[s] == null) return -1;
        return shelf[s] instanceof Integer ? 10 + (Integer) shelf[s] : (int) rowIn(s)[0];
    }

    public int show(int s, int heir) {
        if (bad(s, 0, 7) || heir != -1 && badHeir(heir)) return no(BAD);
        shelf[s] = heir == -1 ? null : (Object) heir;
        return 1;
    }

    public int says(int s, int kind) {
        if (bad(s, 0, 7) || bad(kind, 0, 5)) return no(BAD);
        if (shelf[s] instanceof long[]) return no(OTHER);
        if (shelf[s] == null) return no(NOTHING);
        Person p = now.people.get((Integer) shelf[s]);
        int k = p.kind;
        while (k != kind && k != -1) k = PARENT_KIND[k];
        if (k == -1) return no(OTHER);
        return kind == 0 ? p.has : p.drinks(100, now.year);
    }

    public int tell(int what, int v) {
        if (bad(what, 0, 2) || bad(v, 0, new int[] {9999, 999, 2}[what])) return no(BAD);
        int was = what == 0 ? now.store : what == 1 ? now.year : now.rule;
        if (what == 0) now.store = v;
        if (what == 1) now.year = v;
        if (what == 2) now.rule = v;
        return was;
    }

    public int joy(int thing, int v) {
        if (bad(thing, 0, 7) || bad(v, 0, 9)) return no(BAD);
        int was = now.joy[thing];
        now.joy[thing] = v;
        return was;
    }

    public int feed(int letter) {
        if (bad(letter, 0, 255)) return no(BAD);
        if (tape.length() == 250) return no(FULL);
        tape += (char) letter;
        return tape.length();
    }

    public int wipe() {
        int size = tape.length();
        tape = "";
        return size;
    }

    private static final Pattern TOKEN = Pattern.compile("[a-z]+|[0-9]+|;|[^ ]", Pattern.DOTALL);
    private static final String[][] GRAMMAR = {
        {"heir", "5", "9", "999"}, {"child", "5", "9", "999", "*"}, {"has", "*", "999"},
        {"store", "999"}, {"year", "999"}, {"rule", "2"}, {"joy", "7", "9"}};

    public int store() {
        List<String> tokens = new ArrayList<>();
        List<Integer> places = new ArrayList<>();
        Matcher m = TOKEN.matcher(tape);
        while (m.find()) {
            tokens.add(m.group());
            places.add(m.start());
        }
        places.add(tape.length());
        tape = "";
        World w = now.copy();
        int t = 0;
        int statements = 0;
        while (true) {
            String[] form = null;
            for (String[] f : GRAMMAR) if (t < tokens.size() && tokens.get(t).equals(f[0])) form = f;
            boolean birth = form != null && form.length > 3;
            if (form == null || birth && w.people.size() == 10) return fault(places.get(t));
            t++;
            int[] v = {0, 0, 0, -1};
            for (int k = 1; k < form.length; k++, t++) {
                if (t == tokens.size() || !tokens.get(t).matches("[0-9]{1,3}")) return fault(places.get(t));
                v[k - 1] = Integer.parseInt(tokens.get(t));
                int most = form[k].equals("*") ? w.people.size() - 1 : Integer.parseInt(form[k]);
                if (v[k - 1] > most) return fault(places.get(t));
            }
            if (birth) addPerson(w, v[0], v[1], v[2], v[3]);
            if (form[0].equals("has")) w.people.get(v[0]).has = v[1];
            if (form[0].equals("store")) w.store = v[0];
            if (form[0].equals("year")) w.year = v[0];
            if (form[0].equals("rule")) w.rule = v[0];
            if (form[0].equals("joy")) w.joy[v[0]] = v[1];
            statements++;
            if (t == tokens.size()) break;
            if (!tokens.get(t).equals(";")) return fault(places.get(t));
            t++;
        }
        now = w;
        return statements;
    }

    private int fault(int place) {
        no(BAD);
        return -2000 - place;
    }

    private static int addPerson(World w, int kind, int a, int year, int from) {
        Person p = new Person();
        p.kind = kind; p.a = a; p.born = year; p.from = from;
        w.people.add(p);
        return w.people.size() - 1;
    }

    public int heirOf(int heir, int what) {
        if (badHeir(heir) || bad(what, 0, 7)) return no(BAD);
        Person p = now.people.get(heir);
        return new int[] {p.kind, p.a, p.from, p.born, p.has, p.used, p.how, now.year - p.born}[what];
    }

    public int joyOf(int thing) {
        return bad(thing, 0, 7) ? no(BAD) : now.joy[thing];
    }

    public int uses(int heir, int n) {
        return badHeir(heir) || bad(n, 0, 9999) ? no(BAD) : now.people.get(heir).drinks(n, now.year);
    }

    public int gets(int heir) {
        if (badHeir(heir)) return no(BAD);
        return now.people.get(heir).how != 0 ? no(STUCK) : now.gift();
    }

    private static int count(World w, int how) {
        return (int) w.people.stream().filter(p -> p.how == how).count();
    }

    private static int have(World w) {
        return w.people.stream().mapToInt(p -> p.has).sum();
    }

    public int ahead(int n, int what) {
        if (bad(n, 0, 200) || bad(what, 0, 2)) return no(BAD);
        World w = now.copy().years(n);
        return what == 0 ? w.store : what == 1 ? count(w, 1) : have(w);
    }

    public int later(int heir, int n, int what) {
        if (badHeir(heir) || bad(n, 0, 200) || bad(what, 0, 2)) return no(BAD);
        Person p = now.copy().years(n).people.get(heir);
        return what == 0 ? p.has : what == 1 ? p.used - now.people.get(heir).used : p.how;
    }

    public int out() {
        return now.out() == 1000 ? -1 : now.out();
    }

    /** The first of 0 to n - 1 for which the measure is greatest. */
    private static int argmax(int n, IntUnaryOperator measure) {
        int[] m = IntStream.range(0, n).map(measure).toArray();
        int most = Arrays.stream(m).max().getAsInt();
        return IntStream.range(0, n).filter(i -> m[i] == most).findFirst().getAsInt();
    }

    private World with(Consumer<World> change) {
        World w = now.copy();
        change.accept(w);
        return w;
    }

    public int longest() {
        return argmax(3, r -> with(w -> w.rule = r).out());
    }

    private int[] usedIn(World w, int n) {
        World v = w.copy().years(n);
        return IntStream.range(0, w.people.size()).map(i -> v.people.get(i).used - w.people.get(i).used).toArray();
    }

    public int happiest(int n, int what) {
        if (bad(n, 0, 200) || bad(what, 0, 1)) return no(BAD);
        if (now.people.isEmpty()) return no(STUCK);
        int[] used = usedIn(now, n);
        int who = argmax(used.length, i -> used[i]);
        return what == 0 ? who : used[who];
    }

    private int spread(World w, int n) {
        int[] used = usedIn(w, n);
        Arrays.sort(used);
        return used.length == 0 ? 0 : used[used.length - 1] - used[0];
    }

    public int fair(int n) {
        return bad(n, 0, 200) ? no(BAD) : spread(now, n);
    }

    public int fairest(int n) {
        return bad(n, 0, 200) ? no(BAD) : argmax(3, r -> -spread(with(w -> w.rule = r), n));
    }

    public int better(int heir) {
        return badHeir(heir) ? no(BAD) : argmax(6, k -> with(w -> w.people.get(heir).kind = k).out());
    }

    public int merriest(int heir, int n) {
        if (badHeir(heir) || bad(n, 0, 200)) return no(BAD);
        return argmax(6, k -> usedIn(with(w -> w.people.get(heir).kind = k), n)[heir]);
    }

    public int spared() {
        if (now.people.isEmpty()) return no(STUCK);
        return argmax(now.people.size(), i -> with(w -> {
            w.people.get(i).how = 2;
            w.people.get(i).has = 0;
        }).out());
    }

    private List<Integer> line(World w, int heir, List<Integer> so) {
        if (heir == -1) return so;
        so.add(heir);
        return line(w, w.people.get(heir).from, so);
    }

    private List<Integer> lineOf(int heir) {
        return line(now, heir, new ArrayList<>());
    }

    public int part(int heir) {
        if (badHeir(heir)) return no(BAD);
        int from = now.people.get(heir).from;
        int siblings = (int) now.people.stream().filter(p -> p.from == from).count();
        return from == -1 ? siblings : siblings * part(from);
    }

    public int line(int heir) {
        return badHeir(heir) ? no(BAD) : lineOf(heir).size() - 1;
    }

    public int kin(int heir, int other) {
        if (badHeir(heir) || badHeir(other)) return no(BAD);
        List<Integer> both = lineOf(heir);
        both.retainAll(lineOf(other));
        return both.isEmpty() ? -1 : both.get(0);
    }

    public int steps(int heir, int other) {
        if (badHeir(heir) || badHeir(other)) return no(BAD);
        int k = kin(heir, other);
        return k == -1 ? -1 : lineOf(heir).indexOf(k) + lineOf(other).indexOf(k);
    }

    public int under(int heir) {
        if (badHeir(heir)) return no(BAD);
        return bits(now.people.size(), i -> lineOf(i).indexOf(heir) > 0);
    }

    private static int bits(int n, IntPredicate in) {
        return IntStream.range(0, n).filter(in).map(i -> 1 << i).sum();
    }

    public int share(int heir, int n) {
        return badHeir(heir) || bad(n, 0, 9999) ? no(BAD) : n / part(heir);
    }

    /** How many twos each set goes against; null: STUCK. */
    private int[] against(int s, int n) {
        int[] against = new int[256];
        for (int i = 0; i < n; i++) {
            long thing = element(s, 2 * i);
            long there = element(s, 2 * i + 1);
            if (thing < 0 || thing > 7 || there != 0 && there != 1) return null;
            for (int set = 0; set < 256; set++) if ((set >> thing) % 2 != there) against[set]++;
        }
        return against;
    }

    private int told(int s, int n, int third, int most, ToIntFunction<int[]> answer) {
        if (bad(s, 0, 7) || bad(n, 0, 20) || bad(third, 0, most)) return no(BAD);
        int no = noRow(s, 2 * n);
        if (no != 0) return no(no);
        int[] against = against(s, n);
        return against == null ? no(STUCK) : answer.applyAsInt(against);
    }

    private static int[] fewest(int[] against) {
        int least = Arrays.stream(against).min().getAsInt();
        return IntStream.range(0, 256).filter(i -> against[i] == least).toArray();
    }

    private static int having(int[] sets, int thing) {
        return (int) Arrays.stream(sets).filter(set -> (set >> thing) % 2 == 1).count();
    }

    public int was(int s, int n, int what) {
        return told(s, n, what, 1, t -> what == 0 ? fewest(t)[0] : t[fewest(t)[0]]);
    }

    public int mayBe(int s, int n, int k) {
        return told(s, n, k, 20, t -> (int) Arrays.stream(t).filter(x -> x <= k).count());
    }

    public int likely(int s, int n, int thing) {
        return told(s, n, thing, 7, t -> (int) (1000000L * having(fewest(t), thing) / fewest(t).length));
    }

    public int ask(int s, int n) {
        return told(s, n, 0, 0, t -> {
            int[] f = fewest(t);
            IntUnaryOperator better = k -> Math.min(having(f, k), f.length - having(f, k));
            int k = argmax(8, better);
            return better.applyAsInt(k) == 0 ? -1 : k;
        });
    }

    private int joyOfSet(int set) {
        return IntStream.range(0, 8).filter(i -> (set >> i) % 2 == 1).map(i -> now.joy[i]).sum();
    }

    public int made(int j) {
        if (bad(j, 0, 99)) return no(BAD);
        if (joyOfSet(255) < j) return -1;
        return argmax(256, set -> joyOfSet(set) < j ? -99 : -Integer.bitCount(set));
    }

    public int best(int m) {
        if (bad(m, 0, 8)) return no(BAD);
        int[] sorted = now.joy.clone();
        Arrays.sort(sorted);
        return IntStream.range(8 - m, 8).map(i -> sorted[i]).sum();
    }

    public int last(int n, int m, int what) {
        if (bad(n, 0, 200) || bad(m, 1, 9) || bad(what, 0, 1)) return no(BAD);
        int[] move = new int[n + 1];
        for (int i = 1; i <= n; i++) {
            for (int d = 1; d <= m && d <= i && move[i] == 0; d++) if (move[i - d] == 0) move[i] = d;
        }
        return what == 0 ? move[n] : move[n] == 0 ? 0 : 1;
    }

    public int odds(int t, int q, int what) {
        if (bad(t, 0, 12) || bad(q, 0, 99) || bad(what, 0, 1)) return no(BAD);
        long sum = 0;
        long alive = 0;
        for (int births = 0; births < 1 << t; births++) {
            int left = now.store;
            for (int year = 0; year < t; year++) if ((births >> year) % 2 == 1) left -= Math.min(left, q);
            sum += left;
            alive += left == 0 ? 0 : 1;
        }
        return (int) (what == 0 ? 1000000 * alive / (1 << t) : sum / (1 << t));
    }

    public int fits(int s, int n, int heir, int what) {
        if (bad(s, 0, 7) || bad(n, 1, 40) || badHeir(heir) || bad(what, 0, 1)) return no(BAD);
        int no = noRow(s, n);
        if (no != 0) return no(no);
        return bits(what == 0 ? 6 : 10, c -> {
            World v = with(w -> {
                if (what == 0) w.people.get(heir).kind = c;
                else w.people.get(heir).a = c;
            });
            return IntStream.range(0, n).allMatch(i -> v.year().people.get(heir).has == element(s, i));
        });
    }

    public int when(int heir, int what) {
        if (badHeir(heir) || bad(what, 0, 1)) return no(BAD);
        return IntStream.rangeClosed(0, 200).filter(n -> {
            int how = now.copy().years(n).people.get(heir).how;
            return how == 2 || what == 0 && how == 1;
        }).findFirst().orElse(-1);
    }

    public int who(int what) {
        if (bad(what, 0, 3)) return no(BAD);
        return bits(now.people.size(), i -> what == 3 ? now.people.get(i).from < 0 : now.people.get(i).how == what);
    }

    private int firstOf(int how, ToIntFunction<Person> measure) {
        if (count(now, how) == 0) return -1;
        return argmax(now.people.size(), i -> {
            Person p = now.people.get(i);
            return p.how == how ? measure.applyAsInt(p) : Integer.MIN_VALUE;
        });
    }

    public int rich(int what) {
        return bad(what, 0, 1) ? no(BAD) : firstOf(1, p -> what == 0 ? p.has : -p.has);
    }

    public int eldest(int what) {
        return bad(what, 0, 2) ? no(BAD) : firstOf(what, p -> -p.born);
    }

    public int needs(int t) {
        if (bad(t, 0, 60)) return no(BAD);
        return IntStream.range(0, 1000).filter(s -> with(w -> w.store = s).out() > t).findFirst().orElse(-1);
    }

    public int most() {
        return IntStream.rangeClosed(0, 200).map(n -> count(now.copy().years(n), 1)).max().getAsInt();
    }

    private int usedInYear(int n) {
        return now.copy().years(n + 1).used() - now.copy().years(n).used();
    }

    public int feast(int n, int what) {
        if (bad(n, 1, 200) || bad(what, 0, 1)) return no(BAD);
        int year = argmax(n, this::usedInYear);
        return what == 0 ? year : usedInYear(year);
    }

    public int dry(int n) {
        if (bad(n, 0, 200)) return no(BAD);
        StringBuilder text = new StringBuilder();
        for (int i = 0; i < n; i++) text.append(usedInYear(i) == 0 ? '.' : '#');
        return Arrays.stream(text.toString().split("#")).mapToInt(String::length).max().orElse(0);
    }

    public int leaves(int heir, int what) {
        if (badHeir(heir) || bad(what, 0, 1)) return no(BAD);
        int has = now.people.get(heir).has;
        int c = now.childrenAlive(heir).size();
        if (c == 0) return what == 0 ? 0 : has;
        return what == 0 ? has / c : has % c;
    }

    public int ofKind(int kind) {
        return bad(kind, 0, 5) ? no(BAD) : (int) now.people.stream().filter(p -> p.kind == kind).count();
    }

    public int judge(int s, int n) {
        if (bad(s, 0, 7) || bad(n, 0, 40)) return no(BAD);
        int no = noRow(s, n);
        if (no != 0) return no(no);
        World w = now.copy();
        return IntStream.range(0, n).filter(i -> w.year().store != element(s, i)).findFirst().orElse(-1);
    }

    public int born(int kind, int a, int year, int from) {
        if (bad(kind, 0, 5) || bad(a, 0, 9) || bad(year, 0, 999) || from != -1 && badHeir(from)) return no(BAD);
        return now.people.size() == 10 ? no(FULL) : addPerson(now, kind, a, year, from);
    }

    public int gives(int heir, int other, int n) {
        if (badHeir(heir) || badHeir(other) || heir == other || bad(n, 0, 9999)) return no(BAD);
        Person p = now.people.get(heir);
        Person q = now.people.get(other);
        if (p.has < n || p.how == 2 || q.how == 2) return no(STUCK);
        p.has -= n;
        q.has += n;
        return p.has;
    }

    public int years(int n) {
        return bad(n, 1, 60) ? no(BAD) : now.years(n).store;
    }

    public int drawn(int n) {
        if (bad(n, 1, 60)) return no(BAD);
        int ahead = now.used();
        for (int i = 0; i < n; i++) {
            if (now.draw(4) == 0 && now.people.size() < 10) {
                int kind = now.draw(6);
                int a = now.draw(10);
                addPerson(now, kind, a, now.year, now.people.isEmpty() ? -1 : now.draw(now.people.size()));
            }
            now.year();
        }
        return now.used() - ahead;
    }

    public int seed(int v) {
        int was = now.seed;
        now.seed = v;
        return was;
    }

    public int image() {
        kept = now.copy();
        return 1;
    }

    public int back() {
        if (kept == null) return no(STUCK);
        now = kept.copy();
        for (int s = 0; s < 8; s++) if (shelf[s] instanceof Integer && badHeir((Integer) shelf[s])) shelf[s] = null;
        return 1;
    }

    public int status(int what) {
        if (what >= 12 && what <= 16) return refused[what - 12];
        if (what < 0 || what > 9) return -1;
        int shelves = (int) Arrays.stream(shelf).filter(o -> o != null).count();
        return new int[] {now.people.size(), now.store, now.year, now.rule, count(now, 1), now.used(), have(now),
            tape.length(), now.seed, shelves}[what];
    }
}
