/** A store of drops of happiness and its heirs; ../shared/DOC.md says what each call promises. */
public final class CorkSaysWhen {
    public static final int NONE = -1;

    private static final int BAD = -1002;
    private static final int OTHER = -1003;
    private static final int NOTHING = -1004;
    private static final int STUCK = -1005;
    private static final int FULL = -1006;
    private static final int FINE = 0;
    private static final int REFUSALS = 5;
    private static final int FAULTS = -2000;

    private static final int HEIRS = 10;
    private static final int MOST_A = 9;
    private static final int STORE_MOST = 9999;
    private static final int YEAR_MOST = 999;
    private static final int TOLD_DROPS_MOST = 999;
    private static final int DROPS_MOST = 9999;
    private static final int FIRST_STORE = 660;
    private static final int AGE_TO_COME = 21;
    private static final int AGE_TO_GO = 70;

    private static final int HEIR = 0;
    private static final int SPENDER = 1;
    private static final int SAVER = 2;
    private static final int RIDER = 3;
    private static final int MISER = 4;
    private static final int EXPERT = 5;
    private static final int KINDS = 6;

    private static final int YOUNG = 0;
    private static final int OF_AGE = 1;
    private static final int DEAD = 2;

    private static final int THIMBLE_DROPS = 60;
    private static final int TENTH = 1;
    private static final int EVEN = 2;
    private static final int RULES = 3;

    private static final int THINGS = 8;
    private static final int SETS = 256;
    private static final int MOST_JOY = 9;

    private static final int SHELVES = 8;
    private static final int ELEMENTS = 40;
    private static final int SORTS = 5;
    private static final int BYTES = 0;
    private static final int SHORTS = 1;
    private static final int INTS = 2;
    private static final int BOOLEANS = 4;
    private static final int HEIR_SHOWN = 10;

    private static final int TAPE_BYTES = 250;
    private static final int LONGEST_LOOK = 200;
    private static final int LONGEST_PASSING = 60;
    private static final int MOST_TWOS = 20;
    private static final int MILLION = 1000000;

    private static final int CHOOSE_RULE = 0;
    private static final int CHOOSE_KIND = 1;
    private static final int CHOOSE_A = 2;
    private static final int CHOOSE_DEAD = 3;

    private final Estate now = new Estate();
    private final Estate then = new Estate();
    private final Estate kept = new Estate();
    private boolean isKept;
    private final Tape tape = new Tape();
    private final Shelf[] shelves = new Shelf[SHELVES];
    private final Opinions opinions = new Opinions();
    private final int[] refusals = new int[REFUSALS];

    public CorkSaysWhen() {
        for (int s = 0; s < SHELVES; s++) {
            shelves[s] = new Shelf();
        }
    }

    // ---- SHELVES and ROWS

    public int row(int s, int sort, int n) {
        if (!isShelf(s) || !isWithin(sort, SORTS - 1) || !isWithin(n, ELEMENTS)) {
            return refuse(BAD);
        }
        shelves[s].layRow(sort, n);
        return 1;
    }

    public int set(int s, int i, long v) {
        if (!isShelf(s)) {
            return refuse(BAD);
        }
        int refusal = rowRefusal(s, 0);
        if (refusal != FINE) {
            return refuse(refusal);
        }
        if (!isWithin(i, shelves[s].size - 1)) {
            return refuse(BAD);
        }
        shelves[s].put(i, v);
        return 1;
    }

    public int copy(int p, int q, int i, int j, int n) {
        if (!isShelf(p) || !isShelf(q)) {
            return refuse(BAD);
        }
        Shelf source = shelves[p];
        Shelf target = shelves[q];
        if (source.showsHeir() || target.showsHeir()) {
            return refuse(OTHER);
        }
        if (source.isEmpty() || target.isEmpty()) {
            return refuse(NOTHING);
        }
        if (source.holding != target.holding) {
            return refuse(OTHER);
        }
        if (!source.reaches(i, n) || !target.reaches(j, n)) {
            return refuse(BAD);
        }
        System.arraycopy(source.elements, i, target.elements, j, n);
        return n;
    }

    public long element(int s, int i) {
        if (!isShelf(s) || !shelves[s].holdsRow() || !isWithin(i, shelves[s].size - 1)) {
            return 0L;
        }
        return shelves[s].elements[i];
    }

    public int holds(int s) {
        return isShelf(s) ? shelves[s].holding : NONE;
    }

    public int show(int s, int heir) {
        if (!isShelf(s) || !isHeirOrNone(heir)) {
            return refuse(BAD);
        }
        if (heir == NONE) {
            shelves[s].clear();
        } else {
            shelves[s].showHeir(heir);
        }
        return 1;
    }

    public int says(int s, int kind) {
        if (!isShelf(s) || !isKind(kind)) {
            return refuse(BAD);
        }
        Shelf shelf = shelves[s];
        if (shelf.isEmpty()) {
            return refuse(NOTHING);
        }
        int number = shelf.holding - HEIR_SHOWN;
        if (!isHeir(number) || !now.heirs[number].isOfKind(kind)) {
            return refuse(OTHER);
        }
        Heir heir = now.heirs[number];
        return kind == HEIR ? heir.has : heir.wouldUse(100, now.year);
    }

    // ---- Telling what there is, one thing at a time or by THE TAPE

    public int tell(int what, int v) {
        int was;
        if (what == 0 && isWithin(v, STORE_MOST)) {
            was = now.store;
            now.store = v;
        } else if (what == 1 && isWithin(v, YEAR_MOST)) {
            was = now.year;
            now.year = v;
        } else if (what == 2 && isWithin(v, RULES - 1)) {
            was = now.rule;
            now.rule = v;
        } else {
            was = refuse(BAD);
        }
        return was;
    }

    public int joy(int thing, int v) {
        if (!isThing(thing) || !isWithin(v, MOST_JOY)) {
            return refuse(BAD);
        }
        int was = now.joys[thing];
        now.joys[thing] = v;
        return was;
    }

    public int feed(int letter) {
        if (!isWithin(letter, 255)) {
            return refuse(BAD);
        }
        if (tape.size >= TAPE_BYTES) {
            return refuse(FULL);
        }
        tape.add(letter);
        return tape.size;
    }

    public int wipe() {
        int size = tape.size;
        tape.size = 0;
        return size;
    }

    public int store() {
        then.copyFrom(now);
        int statements = tape.readInto(then);
        tape.size = 0;
        if (statements == NONE) {
            refuse(BAD);
            return FAULTS - tape.start;
        }
        now.copyFrom(then);
        return statements;
    }

    // ---- What there is

    public int heirOf(int heir, int what) {
        if (!isHeir(heir)) {
            return refuse(BAD);
        }
        Heir one = now.heirs[heir];
        switch (what) {
            case 0: return one.kind;
            case 1: return one.a;
            case 2: return one.from;
            case 3: return one.born;
            case 4: return one.has;
            case 5: return one.used;
            case 6: return one.how;
            case 7: return one.age(now.year);
            default: return refuse(BAD);
        }
    }

    public int joyOf(int thing) {
        return isThing(thing) ? now.joys[thing] : refuse(BAD);
    }

    public int uses(int heir, int n) {
        if (!isHeir(heir) || !isWithin(n, DROPS_MOST)) {
            return refuse(BAD);
        }
        return now.heirs[heir].wouldUse(n, now.year);
    }

    public int gets(int heir) {
        if (!isHeir(heir)) {
            return refuse(BAD);
        }
        return now.heirs[heir].how == YOUNG ? now.portion() : refuse(STUCK);
    }

    public int who(int what) {
        if (!isWithin(what, 3)) {
            return refuse(BAD);
        }
        int bits = 0;
        for (int i = 0; i < now.count; i++) {
            Heir heir = now.heirs[i];
            if (what == 3 ? heir.from == NONE : heir.how == what) {
                bits |= 1 << i;
            }
        }
        return bits;
    }

    public int rich(int what) {
        if (!isWithin(what, 1)) {
            return refuse(BAD);
        }
        int found = NONE;
        for (int i = 0; i < now.count; i++) {
            Heir heir = now.heirs[i];
            if (heir.how == OF_AGE && (found == NONE || isBeyond(heir.has, now.heirs[found].has, what))) {
                found = i;
            }
        }
        return found;
    }

    public int eldest(int what) {
        if (!isWithin(what, DEAD)) {
            return refuse(BAD);
        }
        int found = NONE;
        for (int i = 0; i < now.count; i++) {
            Heir heir = now.heirs[i];
            if (heir.how == what && (found == NONE || heir.born < now.heirs[found].born)) {
                found = i;
            }
        }
        return found;
    }

    public int ofKind(int kind) {
        if (!isKind(kind)) {
            return refuse(BAD);
        }
        int many = 0;
        for (int i = 0; i < now.count; i++) {
            if (now.heirs[i].kind == kind) {
                many++;
            }
        }
        return many;
    }

    public int leaves(int heir, int what) {
        if (!isHeir(heir) || !isWithin(what, 1)) {
            return refuse(BAD);
        }
        int each = now.leftToEach(heir);
        return what == 0 ? each : now.heirs[heir].has - each * now.livingFrom(heir);
    }

    // ---- What would come of it

    public int ahead(int n, int what) {
        if (!isWithin(n, LONGEST_LOOK) || !isWithin(what, 2)) {
            return refuse(BAD);
        }
        lookAhead(n);
        if (what == 0) {
            return then.store;
        }
        return what == 1 ? then.howMany(OF_AGE) : then.allHave();
    }

    public int later(int heir, int n, int what) {
        if (!isHeir(heir) || !isWithin(n, LONGEST_LOOK) || !isWithin(what, 2)) {
            return refuse(BAD);
        }
        lookAhead(n);
        Heir one = then.heirs[heir];
        if (what == 0) {
            return one.has;
        }
        return what == 1 ? one.used : one.how;
    }

    public int out() {
        suppose();
        int years = then.yearsUntilEmpty(LONGEST_LOOK);
        return years > LONGEST_LOOK ? NONE : years;
    }

    public int longest() {
        return latestBy(CHOOSE_RULE, 0, RULES);
    }

    public int happiest(int n, int what) {
        if (!isWithin(n, LONGEST_LOOK) || !isWithin(what, 1)) {
            return refuse(BAD);
        }
        if (now.count == 0) {
            return refuse(STUCK);
        }
        lookAhead(n);
        int found = then.happiestOne();
        return what == 0 ? found : then.heirs[found].used;
    }

    public int fair(int n) {
        if (!isWithin(n, LONGEST_LOOK)) {
            return refuse(BAD);
        }
        lookAhead(n);
        return then.unfairness();
    }

    public int fairest(int n) {
        if (!isWithin(n, LONGEST_LOOK)) {
            return refuse(BAD);
        }
        int found = 0;
        int least = NONE;
        for (int rule = 0; rule < RULES; rule++) {
            suppose(CHOOSE_RULE, 0, rule);
            then.pass(n);
            int unfair = then.unfairness();
            if (least == NONE || unfair < least) {
                least = unfair;
                found = rule;
            }
        }
        return found;
    }

    public int better(int heir) {
        return isHeir(heir) ? latestBy(CHOOSE_KIND, heir, KINDS) : refuse(BAD);
    }

    public int merriest(int heir, int n) {
        if (!isHeir(heir) || !isWithin(n, LONGEST_LOOK)) {
            return refuse(BAD);
        }
        int found = 0;
        int most = NONE;
        for (int kind = 0; kind < KINDS; kind++) {
            suppose(CHOOSE_KIND, heir, kind);
            then.pass(n);
            if (then.heirs[heir].used > most) {
                most = then.heirs[heir].used;
                found = kind;
            }
        }
        return found;
    }

    public int spared() {
        return now.count > 0 ? latestBy(CHOOSE_DEAD, 0, now.count) : refuse(STUCK);
    }

    public int when(int heir, int what) {
        if (!isHeir(heir) || !isWithin(what, 1)) {
            return refuse(BAD);
        }
        int wanted = what == 0 ? OF_AGE : DEAD;
        suppose();
        for (int years = 0; years < LONGEST_LOOK; years++) {
            // YOUNG, OF AGE and DEAD follow each other, so a later state tells of the earlier.
            if (then.heirs[heir].how >= wanted) {
                return years;
            }
            then.passYear();
        }
        return then.heirs[heir].how >= wanted ? LONGEST_LOOK : NONE;
    }

    public int needs(int t) {
        if (!isWithin(t, 60)) {
            return refuse(BAD);
        }
        for (int drops = 0; drops <= 999; drops++) {
            suppose();
            then.store = drops;
            if (then.yearsUntilEmpty(t) > t) {
                return drops;
            }
        }
        return NONE;
    }

    public int most() {
        suppose();
        int most = then.howMany(OF_AGE);
        for (int year = 0; year < LONGEST_LOOK; year++) {
            then.passYear();
            most = Math.max(most, then.howMany(OF_AGE));
        }
        return most;
    }

    public int feast(int n, int what) {
        if (n < 1 || n > LONGEST_LOOK || !isWithin(what, 1)) {
            return refuse(BAD);
        }
        suppose();
        int found = 0;
        int most = NONE;
        for (int year = 0; year < n; year++) {
            int used = then.passYear();
            if (used > most) {
                most = used;
                found = year;
            }
        }
        return what == 0 ? found : most;
    }

    public int dry(int n) {
        if (!isWithin(n, LONGEST_LOOK)) {
            return refuse(BAD);
        }
        suppose();
        int longest = 0;
        int running = 0;
        for (int year = 0; year < n; year++) {
            running = then.passYear() == 0 ? running + 1 : 0;
            longest = Math.max(longest, running);
        }
        return longest;
    }

    // ---- The tree

    public int part(int heir) {
        return isHeir(heir) ? now.partOf(heir) : refuse(BAD);
    }

    public int share(int heir, int n) {
        if (!isHeir(heir) || !isWithin(n, DROPS_MOST)) {
            return refuse(BAD);
        }
        int parts = now.partOf(heir);
        return parts > 0 ? n / parts : 0;
    }

    public int line(int heir) {
        return isHeir(heir) ? now.generation(heir) : refuse(BAD);
    }

    public int kin(int heir, int other) {
        return isHeir(heir) && isHeir(other) ? now.nearestKin(heir, other) : refuse(BAD);
    }

    public int steps(int heir, int other) {
        if (!isHeir(heir) || !isHeir(other)) {
            return refuse(BAD);
        }
        int nearest = now.nearestKin(heir, other);
        if (nearest == NONE) {
            return NONE;
        }
        return now.generation(heir) + now.generation(other) - 2 * now.generation(nearest);
    }

    public int under(int heir) {
        return isHeir(heir) ? now.allUnder(heir) : refuse(BAD);
    }

    // ---- What experts say, with slips

    public int was(int s, int n, int what) {
        if (!isShelf(s) || !isWithin(n, MOST_TWOS) || !isWithin(what, 1)) {
            return refuse(BAD);
        }
        int refusal = hearTwos(s, n);
        if (refusal != FINE) {
            return refuse(refusal);
        }
        int set = opinions.leastFitting();
        return what == 0 ? set : opinions.against(set);
    }

    public int mayBe(int s, int n, int k) {
        if (!isShelf(s) || !isWithin(n, MOST_TWOS) || !isWithin(k, 20)) {
            return refuse(BAD);
        }
        int refusal = hearTwos(s, n);
        return refusal != FINE ? refuse(refusal) : opinions.howManyWithin(k);
    }

    public int likely(int s, int n, int thing) {
        if (!isShelf(s) || !isWithin(n, MOST_TWOS) || !isThing(thing)) {
            return refuse(BAD);
        }
        int refusal = hearTwos(s, n);
        if (refusal != FINE) {
            return refuse(refusal);
        }
        int all = opinions.howManyFit();
        return all > 0 ? opinions.howManyFitWith(thing) * MILLION / all : 0;
    }

    public int ask(int s, int n) {
        if (!isShelf(s) || !isWithin(n, MOST_TWOS)) {
            return refuse(BAD);
        }
        int refusal = hearTwos(s, n);
        if (refusal != FINE) {
            return refuse(refusal);
        }
        int all = opinions.howManyFit();
        int found = NONE;
        int fewest = all;
        for (int thing = 0; thing < THINGS; thing++) {
            int with = opinions.howManyFitWith(thing);
            int worse = Math.max(with, all - with);
            if (worse < fewest) {
                fewest = worse;
                found = thing;
            }
        }
        return found;
    }

    // ---- Sets of THINGS, turns and births

    public int made(int j) {
        if (!isWithin(j, 99)) {
            return refuse(BAD);
        }
        int found = NONE;
        for (int set = 0; set < SETS; set++) {
            boolean isFewer = found == NONE || Integer.bitCount(set) < Integer.bitCount(found);
            if (isFewer && now.joyTogether(set) >= j) {
                found = set;
            }
        }
        return found;
    }

    public int best(int m) {
        if (!isWithin(m, THINGS)) {
            return refuse(BAD);
        }
        int greatest = 0;
        for (int set = 0; set < SETS; set++) {
            if (Integer.bitCount(set) == m) {
                greatest = Math.max(greatest, now.joyTogether(set));
            }
        }
        return greatest;
    }

    public int last(int n, int m, int what) {
        if (!isWithin(n, 200) || m < 1 || m > 9 || !isWithin(what, 1)) {
            return refuse(BAD);
        }
        // Who leaves a multiple of m + 1 can answer every drink so that it stays one.
        int drink = n % (m + 1);
        if (what == 0) {
            return drink;
        }
        return drink > 0 ? 1 : 0;
    }

    public int odds(int t, int q, int what) {
        if (!isWithin(t, 12) || !isWithin(q, 99) || !isWithin(what, 1)) {
            return refuse(BAD);
        }
        long ways = 1;
        long waysWithDrops = 0;
        long drops = 0;
        for (int births = 0; births <= t; births++) {
            int left = Math.max(0, now.store - births * q);
            drops += ways * left;
            if (left > 0) {
                waysWithDrops += ways;
            }
            ways = ways * (t - births) / (births + 1);
        }
        return (int) ((what == 0 ? waysWithDrops * MILLION : drops) >> t);
    }

    // ---- Told YEARS

    public int fits(int s, int n, int heir, int what) {
        if (!isShelf(s) || n < 1 || n > ELEMENTS || !isHeir(heir) || !isWithin(what, 1)) {
            return refuse(BAD);
        }
        int refusal = rowRefusal(s, n);
        if (refusal != FINE) {
            return refuse(refusal);
        }
        int sort = what == 0 ? CHOOSE_KIND : CHOOSE_A;
        int choices = what == 0 ? KINDS : MOST_A + 1;
        int bits = 0;
        for (int choice = 0; choice < choices; choice++) {
            suppose(sort, heir, choice);
            if (wouldHaveAsTold(heir, shelves[s], n)) {
                bits |= 1 << choice;
            }
        }
        return bits;
    }

    public int judge(int s, int n) {
        if (!isShelf(s) || !isWithin(n, ELEMENTS)) {
            return refuse(BAD);
        }
        int refusal = rowRefusal(s, n);
        if (refusal != FINE) {
            return refuse(refusal);
        }
        suppose();
        for (int i = 0; i < n; i++) {
            then.passYear();
            if (shelves[s].elements[i] != then.store) {
                return i;
            }
        }
        return NONE;
    }

    // ---- In truth

    public int born(int kind, int a, int year, int from) {
        if (!isKind(kind) || !isWithin(a, MOST_A) || !isWithin(year, YEAR_MOST) || !isHeirOrNone(from)) {
            return refuse(BAD);
        }
        if (!now.hasRoom()) {
            return refuse(FULL);
        }
        return now.addHeir(kind, a, year, from);
    }

    public int gives(int heir, int other, int n) {
        if (!isHeir(heir) || !isHeir(other) || heir == other || !isWithin(n, DROPS_MOST)) {
            return refuse(BAD);
        }
        Heir giver = now.heirs[heir];
        Heir taker = now.heirs[other];
        if (giver.has < n || giver.how == DEAD || taker.how == DEAD) {
            return refuse(STUCK);
        }
        giver.has -= n;
        taker.has += n;
        return giver.has;
    }

    public int years(int n) {
        if (n < 1 || n > LONGEST_PASSING) {
            return refuse(BAD);
        }
        now.pass(n);
        return now.store;
    }

    public int drawn(int n) {
        if (n < 1 || n > LONGEST_PASSING) {
            return refuse(BAD);
        }
        int used = 0;
        for (int year = 0; year < n; year++) {
            now.drawBirth();
            used += now.passYear();
        }
        return used;
    }

    public int seed(int v) {
        int was = now.seed;
        now.seed = v;
        return was;
    }

    public int image() {
        kept.copyFrom(now);
        isKept = true;
        return 1;
    }

    public int back() {
        if (!isKept) {
            return refuse(STUCK);
        }
        now.copyFrom(kept);
        for (int s = 0; s < SHELVES; s++) {
            if (shelves[s].showsHeir() && !isHeir(shelves[s].holding - HEIR_SHOWN)) {
                shelves[s].clear();
            }
        }
        return 1;
    }

    public int status(int what) {
        switch (what) {
            case 0: return now.count;
            case 1: return now.store;
            case 2: return now.year;
            case 3: return now.rule;
            case 4: return now.howMany(OF_AGE);
            case 5: return now.allUsed();
            case 6: return now.allHave();
            case 7: return tape.size;
            case 8: return now.seed;
            case 9: return shelvesInUse();
            default: return isWithin(what - 12, REFUSALS - 1) ? refusals[what - 12] : NONE;
        }
    }

    // ---- What the calls share

    private int refuse(int number) {
        int place = BAD - number;
        if (isWithin(place, REFUSALS - 1)) {
            refusals[place]++;
        }
        return number;
    }

    /** Whether v is from 0 to most. */
    private static boolean isWithin(int v, int most) {
        return v >= 0 && v <= most;
    }

    private static boolean isShelf(int s) {
        return isWithin(s, SHELVES - 1);
    }

    private static boolean isKind(int kind) {
        return isWithin(kind, KINDS - 1);
    }

    private static boolean isThing(int thing) {
        return isWithin(thing, THINGS - 1);
    }

    private boolean isHeir(int heir) {
        return isWithin(heir, now.count - 1);
    }

    private boolean isHeirOrNone(int heir) {
        return heir == NONE || isHeir(heir);
    }

    /** Whether has is more than other (what 0), or less (what 1). */
    private static boolean isBeyond(int has, int other, int what) {
        return what == 0 ? has > other : has < other;
    }

    private int shelvesInUse() {
        int many = 0;
        for (int s = 0; s < SHELVES; s++) {
            if (!shelves[s].isEmpty()) {
                many++;
            }
        }
        return many;
    }

    /** What refuses a call that wants a ROW of at least so many elements in SHELF s, or FINE. */
    private int rowRefusal(int s, int least) {
        if (shelves[s].showsHeir()) {
            return OTHER;
        }
        if (shelves[s].isEmpty()) {
            return NOTHING;
        }
        return shelves[s].size < least ? BAD : FINE;
    }

    /** Takes the first n twos of the ROW in SHELF s for the opinions; what refuses them, or FINE. */
    private int hearTwos(int s, int n) {
        int refusal = rowRefusal(s, 2 * n);
        if (refusal != FINE) {
            return refusal;
        }
        return opinions.hear(shelves[s].elements, n) ? FINE : STUCK;
    }

    /** Makes the other estate as it is now, with nothing USED yet, so that it can be changed. */
    private void suppose() {
        then.copyFrom(now);
        then.forgetUsed();
    }

    /** Supposes one thing else: another RULE, another KIND or a of one HEIR, or that one is DEAD now. */
    private void suppose(int sort, int heir, int choice) {
        suppose();
        switch (sort) {
            case CHOOSE_RULE: then.rule = choice; break;
            case CHOOSE_KIND: then.heirs[heir].kind = choice; break;
            case CHOOSE_A: then.heirs[heir].a = choice; break;
            default: then.heirs[choice].leaveNothing(); break;
        }
    }

    /** The choice by which OUT is latest, of several the least; that it never is counts as latest of all. */
    private int latestBy(int sort, int heir, int choices) {
        int found = 0;
        int latest = NONE;
        for (int choice = 0; choice < choices; choice++) {
            suppose(sort, heir, choice);
            int years = then.yearsUntilEmpty(LONGEST_LOOK);
            if (years > latest) {
                latest = years;
                found = choice;
            }
        }
        return found;
    }

    private void lookAhead(int n) {
        suppose();
        then.pass(n);
    }

    /** Whether in the supposed estate one HAS behind each of the next n YEARS what the ROW tells. */
    private boolean wouldHaveAsTold(int heir, Shelf told, int n) {
        for (int i = 0; i < n; i++) {
            then.passYear();
            if (told.elements[i] != then.heirs[heir].has) {
                return false;
            }
        }
        return true;
    }

    /** One HEIR. */
    private static final class Heir {
        int kind;
        int a;
        int from;
        int born;
        int has;
        int used;
        int how;

        Heir() {
            from = NONE;
        }

        void begin(int itsKind, int itsA, int year, int itsFrom) {
            kind = itsKind;
            a = itsA;
            born = year;
            from = itsFrom;
            has = 0;
            used = 0;
            how = YOUNG;
        }

        void copyFrom(Heir other) {
            kind = other.kind;
            a = other.a;
            from = other.from;
            born = other.born;
            has = other.has;
            used = other.used;
            how = other.how;
        }

        void leaveNothing() {
            how = DEAD;
            has = 0;
        }

        int age(int year) {
            return year - born;
        }

        /** Whether he is of the KIND or of one under it. */
        boolean isOfKind(int wanted) {
            if (wanted == SPENDER) {
                return kind == SPENDER || kind == RIDER;
            }
            if (wanted == SAVER) {
                return kind == SAVER || kind == MISER;
            }
            return wanted == HEIR || kind == wanted;
        }

        int wouldUse(int drops, int year) {
            return Math.min(drops, wishes(drops, year));
        }

        private int wishes(int drops, int year) {
            switch (kind) {
                case SPENDER: return halfUpward(drops);
                case RIDER: return halfUpward(drops) + a;
                case SAVER: return a;
                case MISER: return year % 2 == 0 ? a : 0;
                case EXPERT: return tenthUpward(drops) + 1;
                default: return tenthUpward(drops);
            }
        }

        private static int halfUpward(int drops) {
            return (drops + 1) / 2;
        }

        static int tenthUpward(int drops) {
            return (drops + 9) / 10;
        }
    }

    /** All that image keeps: STORE, YEAR, RULE, JOY, SEED and the HEIRS. */
    private static final class Estate {
        int store = FIRST_STORE;
        int year;
        int rule;
        int seed = 1;
        int count;
        final int[] joys = new int[THINGS];
        final Heir[] heirs = new Heir[HEIRS];

        Estate() {
            for (int thing = 0; thing < THINGS; thing++) {
                joys[thing] = thing + 1;
            }
            for (int i = 0; i < HEIRS; i++) {
                heirs[i] = new Heir();
            }
        }

        void copyFrom(Estate other) {
            store = other.store;
            year = other.year;
            rule = other.rule;
            seed = other.seed;
            count = other.count;
            System.arraycopy(other.joys, 0, joys, 0, THINGS);
            for (int i = 0; i < count; i++) {
                heirs[i].copyFrom(other.heirs[i]);
            }
        }

        void forgetUsed() {
            for (int i = 0; i < count; i++) {
                heirs[i].used = 0;
            }
        }

        boolean hasRoom() {
            return count < HEIRS;
        }

        /** Asks for room to be looked at ahead; the new HEIR's number. */
        int addHeir(int kind, int a, int bornIn, int from) {
            if (!hasRoom()) {
                return NONE;
            }
            heirs[count].begin(kind, a, bornIn, from);
            count++;
            return count - 1;
        }

        // -- A YEAR

        void pass(int n) {
            for (int i = 0; i < n; i++) {
                passYear();
            }
        }

        /** One YEAR goes by; how much all USED in it. */
        int passYear() {
            comeOfAge();
            int usedByAll = drink();
            die();
            if (year < YEAR_MOST) {
                year++;
            }
            return usedByAll;
        }

        private void comeOfAge() {
            for (int i = 0; i < count; i++) {
                Heir heir = heirs[i];
                if (heir.how == YOUNG && heir.age(year) >= AGE_TO_COME) {
                    int portion = portion();
                    heir.how = OF_AGE;
                    heir.has += portion;
                    store -= portion;
                }
            }
        }

        /** What one who is YOUNG gets, coming OF AGE. */
        int portion() {
            int due = THIMBLE_DROPS;
            if (rule == TENTH) {
                due = Heir.tenthUpward(store);
            } else if (rule == EVEN) {
                int young = howMany(YOUNG);
                due = young > 0 ? store / young : store;
            }
            return Math.min(due, store);
        }

        private int drink() {
            int usedByAll = 0;
            for (int i = 0; i < count; i++) {
                Heir heir = heirs[i];
                if (heir.how == OF_AGE) {
                    int uses = heir.wouldUse(heir.has, year);
                    heir.has -= uses;
                    heir.used += uses;
                    usedByAll += uses;
                }
            }
            return usedByAll;
        }

        private void die() {
            for (int i = 0; i < count; i++) {
                Heir heir = heirs[i];
                if (heir.how == OF_AGE && heir.age(year) >= AGE_TO_GO) {
                    heir.how = DEAD;
                    bequeath(i);
                }
            }
        }

        private void bequeath(int dead) {
            int each = leftToEach(dead);
            int rest = heirs[dead].has - each * livingFrom(dead);
            for (int i = 0; i < count; i++) {
                if (heirs[i].from == dead && heirs[i].how != DEAD) {
                    heirs[i].has += each;
                }
            }
            heirs[dead].has = 0;
            store = Math.min(STORE_MOST, store + rest);
        }

        int livingFrom(int one) {
            int many = 0;
            for (int i = 0; i < count; i++) {
                if (heirs[i].from == one && heirs[i].how != DEAD) {
                    many++;
                }
            }
            return many;
        }

        /** What each FROM one gets of what he leaves; 0 if there is none. */
        int leftToEach(int one) {
            int living = livingFrom(one);
            return living > 0 ? heirs[one].has / living : 0;
        }

        /** Passes YEARS, and tells behind how many STORE is 0; most + 1 if it isn't in so many. */
        int yearsUntilEmpty(int most) {
            for (int years = 0; years < most; years++) {
                if (store == 0) {
                    return years;
                }
                passYear();
            }
            return store == 0 ? most : most + 1;
        }

        // -- Sums over the HEIRS

        int howMany(int how) {
            int many = 0;
            for (int i = 0; i < count; i++) {
                if (heirs[i].how == how) {
                    many++;
                }
            }
            return many;
        }

        int allHave() {
            int sum = 0;
            for (int i = 0; i < count; i++) {
                sum += heirs[i].has;
            }
            return sum;
        }

        int allUsed() {
            int sum = 0;
            for (int i = 0; i < count; i++) {
                sum += heirs[i].used;
            }
            return sum;
        }

        int happiestOne() {
            int found = 0;
            for (int i = 1; i < count; i++) {
                if (heirs[i].used > heirs[found].used) {
                    found = i;
                }
            }
            return found;
        }

        int unfairness() {
            if (count == 0) {
                return 0;
            }
            int least = heirs[0].used;
            for (int i = 1; i < count; i++) {
                least = Math.min(least, heirs[i].used);
            }
            return heirs[happiestOne()].used - least;
        }

        int joyTogether(int set) {
            int sum = 0;
            for (int thing = 0; thing < THINGS; thing++) {
                if ((set >> thing & 1) == 1) {
                    sum += joys[thing];
                }
            }
            return sum;
        }

        // -- The tree; FROM is always a lower number, so a line has at most HEIRS in it

        private int howManyFrom(int one) {
            int many = 0;
            for (int i = 0; i < count; i++) {
                if (heirs[i].from == one) {
                    many++;
                }
            }
            return many;
        }

        int partOf(int heir) {
            int parts = 1;
            int one = heir;
            for (int i = 0; i < HEIRS && one != NONE; i++) {
                one = heirs[one].from;
                parts *= howManyFrom(one);
            }
            return parts;
        }

        int generation(int heir) {
            int generations = 0;
            int one = heirs[heir].from;
            for (int i = 0; i < HEIRS && one != NONE; i++) {
                generations++;
                one = heirs[one].from;
            }
            return generations;
        }

        /** The bits of one and of all that he is FROM, and they are, and so on. */
        private int lineUpward(int heir) {
            int bits = 0;
            int one = heir;
            for (int i = 0; i < HEIRS && one != NONE; i++) {
                bits |= 1 << one;
                one = heirs[one].from;
            }
            return bits;
        }

        int nearestKin(int heir, int other) {
            int othersLine = lineUpward(other);
            int one = heir;
            for (int i = 0; i < HEIRS && one != NONE; i++) {
                if ((othersLine >> one & 1) == 1) {
                    return one;
                }
                one = heirs[one].from;
            }
            return NONE;
        }

        int allUnder(int heir) {
            int bits = 0;
            for (int i = 0; i < count; i++) {
                if (i != heir && (lineUpward(i) >> heir & 1) == 1) {
                    bits |= 1 << i;
                }
            }
            return bits;
        }

        // -- Draws

        private int draw(int below) {
            seed = seed * 1103515245 + 12345;
            return below > 0 ? (seed >>> 16) % below : 0;
        }

        void drawBirth() {
            if (draw(4) != 0 || !hasRoom()) {
                return;
            }
            int kind = draw(KINDS);
            int a = draw(MOST_A + 1);
            int from = count > 0 ? draw(count) : NONE;
            addHeir(kind, a, year, from);
        }
    }

    /** One of SHELVES; its elements are made once and used again by each ROW that it holds. */
    private static final class Shelf {
        /** As holds answers it: NONE, a SORT, or HEIR_SHOWN and the HEIR's number. */
        int holding = NONE;
        int size;
        final long[] elements = new long[ELEMENTS];

        Shelf() {
        }

        boolean isEmpty() {
            return holding == NONE;
        }

        boolean showsHeir() {
            return holding >= HEIR_SHOWN;
        }

        boolean holdsRow() {
            return !isEmpty() && !showsHeir();
        }

        void clear() {
            holding = NONE;
            size = 0;
        }

        void showHeir(int heir) {
            holding = HEIR_SHOWN + heir;
            size = 0;
        }

        void layRow(int sort, int n) {
            holding = sort;
            size = n;
            for (int i = 0; i < ELEMENTS; i++) {
                elements[i] = 0L;
            }
        }

        void put(int i, long v) {
            switch (holding) {
                case BYTES: elements[i] = (byte) v; break;
                case SHORTS: elements[i] = (short) v; break;
                case INTS: elements[i] = (int) v; break;
                case BOOLEANS: elements[i] = v != 0 ? 1L : 0L; break;
                default: elements[i] = v; break;
            }
        }

        /** Whether there are n elements from place i on. */
        boolean reaches(int i, int n) {
            return i >= 0 && n >= 0 && i <= size - n;
        }
    }

    /** What the twos of a ROW say of each THING, and which sets of THINGS go against them. */
    private static final class Opinions {
        private final int[] sayThere = new int[THINGS];
        private final int[] sayNot = new int[THINGS];

        Opinions() {
        }

        /** Whether the first n twos are all a THING and 1 or 0; then they are what is said. */
        boolean hear(long[] told, int n) {
            for (int thing = 0; thing < THINGS; thing++) {
                sayThere[thing] = 0;
                sayNot[thing] = 0;
            }
            for (int i = 0; i < n; i++) {
                long thing = told[2 * i];
                long there = told[2 * i + 1];
                if (thing < 0 || thing >= THINGS || there < 0 || there > 1) {
                    return false;
                }
                if (there == 1) {
                    sayThere[(int) thing]++;
                } else {
                    sayNot[(int) thing]++;
                }
            }
            return true;
        }

        /** Against how many of the twos a set goes. */
        int against(int set) {
            int many = 0;
            for (int thing = 0; thing < THINGS; thing++) {
                many += has(set, thing) ? sayNot[thing] : sayThere[thing];
            }
            return many;
        }

        private static boolean has(int set, int thing) {
            return (set >> thing & 1) == 1;
        }

        int leastFitting() {
            int found = 0;
            int fewest = against(0);
            for (int set = 1; set < SETS; set++) {
                int many = against(set);
                if (many < fewest) {
                    fewest = many;
                    found = set;
                }
            }
            return found;
        }

        int howManyWithin(int k) {
            int many = 0;
            for (int set = 0; set < SETS; set++) {
                if (against(set) <= k) {
                    many++;
                }
            }
            return many;
        }

        int howManyFit() {
            return howManyWithin(against(leastFitting()));
        }

        int howManyFitWith(int thing) {
            int fewest = against(leastFitting());
            int many = 0;
            for (int set = 0; set < SETS; set++) {
                if (has(set, thing) && against(set) == fewest) {
                    many++;
                }
            }
            return many;
        }
    }

    /** THE TAPE, and what reads it token by token. */
    private static final class Tape {
        private static final int WORD = 0;
        private static final int NUMBER = 1;
        private static final int SIGN = 2;
        private static final int STRANGE = 3;
        private static final int END = 4;

        private static final int HEIR_WORD = 0;
        private static final int CHILD_WORD = 1;
        private static final int HAS_WORD = 2;
        private static final int STORE_WORD = 3;
        private static final int YEAR_WORD = 4;
        private static final int RULE_WORD = 5;
        private static final int JOY_WORD = 6;
        private static final int WORDS = 7;

        private static final int MOST_DIGITS = 3;
        private static final int MOST_NUMBERS = 4;

        private final int[] bytes = new int[TAPE_BYTES];
        int size;
        /** The place of the TOKEN's first byte; when reading ends too soon, the FAULT. */
        int start;
        private int end;
        private int token;
        private final int[] numbers = new int[MOST_NUMBERS];

        Tape() {
        }

        void add(int letter) {
            if (size < TAPE_BYTES) {
                bytes[size] = letter;
                size++;
            }
        }

        /** How many STATEMENTS came to the estate; NONE: there is a FAULT, at start. */
        int readInto(Estate estate) {
            end = 0;
            nextToken();
            for (int statements = 1; statements <= TAPE_BYTES; statements++) {
                if (!readStatement(estate)) {
                    return NONE;
                }
                nextToken();
                if (token == END) {
                    return statements;
                }
                if (token != SIGN) {
                    return NONE;
                }
                nextToken();
            }
            return NONE;
        }

        private boolean readStatement(Estate estate) {
            int word = knownWord();
            if (word == NONE || isBirth(word) && !estate.hasRoom()) {
                return false;
            }
            int wanted = howManyNumbers(word);
            for (int i = 0; i < wanted; i++) {
                nextToken();
                if (!isNumberUpTo(greatest(word, i, estate))) {
                    return false;
                }
                numbers[i] = value();
            }
            carryOut(word, estate);
            return true;
        }

        private void carryOut(int word, Estate estate) {
            switch (word) {
                case HEIR_WORD: estate.addHeir(numbers[0], numbers[1], numbers[2], NONE); break;
                case CHILD_WORD: estate.addHeir(numbers[0], numbers[1], numbers[2], numbers[3]); break;
                case HAS_WORD: estate.heirs[numbers[0]].has = numbers[1]; break;
                case STORE_WORD: estate.store = numbers[0]; break;
                case YEAR_WORD: estate.year = numbers[0]; break;
                case RULE_WORD: estate.rule = numbers[0]; break;
                default: estate.joys[numbers[0]] = numbers[1]; break;
            }
        }

        private static boolean isBirth(int word) {
            return word == HEIR_WORD || word == CHILD_WORD;
        }

        private static String spelling(int word) {
            switch (word) {
                case HEIR_WORD: return "heir";
                case CHILD_WORD: return "child";
                case HAS_WORD: return "has";
                case STORE_WORD: return "store";
                case YEAR_WORD: return "year";
                case RULE_WORD: return "rule";
                default: return "joy";
            }
        }

        private static int howManyNumbers(int word) {
            switch (word) {
                case HEIR_WORD: return 3;
                case CHILD_WORD: return 4;
                case HAS_WORD: return 2;
                case JOY_WORD: return 2;
                default: return 1;
            }
        }

        /** The greatest NUMBER that may be in the i-th place behind a word; below 0: none may. */
        private static int greatest(int word, int i, Estate estate) {
            switch (word) {
                case HAS_WORD: return i == 0 ? estate.count - 1 : TOLD_DROPS_MOST;
                case STORE_WORD: return TOLD_DROPS_MOST;
                case YEAR_WORD: return YEAR_MOST;
                case RULE_WORD: return RULES - 1;
                case JOY_WORD: return i == 0 ? THINGS - 1 : MOST_JOY;
                default: return greatestOfBirth(i, estate);
            }
        }

        private static int greatestOfBirth(int i, Estate estate) {
            switch (i) {
                case 0: return KINDS - 1;
                case 1: return MOST_A;
                case 2: return YEAR_MOST;
                default: return estate.count - 1;
            }
        }

        private int knownWord() {
            if (token != WORD) {
                return NONE;
            }
            for (int word = 0; word < WORDS; word++) {
                if (isSpelled(spelling(word))) {
                    return word;
                }
            }
            return NONE;
        }

        private boolean isSpelled(String text) {
            if (text.length() != end - start) {
                return false;
            }
            for (int i = 0; i < text.length(); i++) {
                if (bytes[start + i] != text.charAt(i)) {
                    return false;
                }
            }
            return true;
        }

        private boolean isNumberUpTo(int most) {
            return token == NUMBER && end - start <= MOST_DIGITS && value() <= most;
        }

        private int value() {
            int sum = 0;
            for (int i = start; i < end; i++) {
                sum = sum * 10 + bytes[i] - '0';
            }
            return sum;
        }

        private void nextToken() {
            start = end;
            while (start < size && bytes[start] == ' ') {
                start++;
            }
            end = start;
            if (start >= size) {
                token = END;
                return;
            }
            token = sortOf(bytes[start]);
            end++;
            boolean grows = token == WORD || token == NUMBER;
            while (grows && end < size && sortOf(bytes[end]) == token) {
                end++;
            }
        }

        private static int sortOf(int letter) {
            if (letter >= 'a' && letter <= 'z') {
                return WORD;
            }
            if (letter >= '0' && letter <= '9') {
                return NUMBER;
            }
            return letter == ';' ? SIGN : STRANGE;
        }
    }
}
