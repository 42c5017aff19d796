import java.util.Arrays;

/** A street with a sleeping act, told as a text, and what can be asked of it: see README.md. */
public final class SleepAct {
    public static final int NONE = -1;

    private static final int NO_SUCH = -2;
    private static final int CANNOT_BE = -3;
    private static final int TOO_MANY = -4;
    private static final int NOT_NOW = -5;
    private static final int MISSING = -6;
    private static final int NO_NUMBER = -7;
    private static final int WHY_NOT = -10;
    private static final int FAULTY_TEXT = -30;

    private static final int TEXT_BYTES = 900;
    private static final int MOST_GOERS = 4;
    private static final int MOST_PEOPLE = 8;
    private static final int MOST_UNDONE = 10;
    private static final int TRAYS = 4;
    private static final int IMAGES = 2;
    private static final int TRAY_PLACES = 40;
    private static final int NONE_SUCH = 1;
    private static final int IS_PAST = 2;
    private static final int IS_AWAKE = 3;

    /** Where all goers are is one number to the base 7, since a goer is in one of 6 cells or past them. */
    private static final int BASE = 7;
    private static final int[] WEIGHT = {1, 7, 49, 343, 2401};
    private static final int DEPTHS = 10;
    private static final int STATES = 24010;

    private final Reader reader = new Reader();
    private int serial;
    private Street street = new Street(0);
    private final Stand now = new Stand();
    private final Stand spare = new Stand();
    private final Stand[] undos = new Stand[MOST_UNDONE];
    private int undoable;
    private final Street[] imageStreets = new Street[IMAGES];
    private final Stand[] imageStands = new Stand[IMAGES];
    private final Tray[] trays = new Tray[TRAYS];
    private final Laws laws = new Laws();
    private final Says says = new Says();
    private final int[] timesByDepth = new int[DEPTHS];
    private long[] weights = new long[DEPTHS];
    private long[] weightsThen = new long[DEPTHS];
    /** The two greatest tables are made only when a call needs them. */
    private Walks walks;
    private Dares dareTable;

    public SleepAct() {
        for (int i = 0; i < MOST_UNDONE; i++) {
            undos[i] = new Stand();
        }
        for (int i = 0; i < IMAGES; i++) {
            imageStands[i] = new Stand();
        }
        for (int i = 0; i < TRAYS; i++) {
            trays[i] = new Tray();
        }
        now.become(street.start);
    }

    // ---- the street

    public int feed(int a, int b, int c, int d, int e) {
        if (reader.taped + 20 > TEXT_BYTES) {
            return NOT_NOW;
        }
        reader.putBytes(a);
        reader.putBytes(b);
        reader.putBytes(c);
        reader.putBytes(d);
        reader.putBytes(e);
        return reader.taped;
    }

    public int street(int n) {
        if (n < 0 || n > reader.taped) {
            return CANNOT_BE;
        }
        Street told = reader.read(n, serial + 1);
        if (told == null) {
            return FAULTY_TEXT - reader.fault;
        }
        serial++;
        street = told;
        now.become(told.start);
        undoable = 0;
        return told.lines;
    }

    public int fault(int what) {
        if (what == 0) {
            return reader.fault;
        }
        return what == 1 ? reader.place : NONE;
    }

    public int goer(int g, int what) {
        if (g < 0 || g >= street.goers || what < 0 || what > 3) {
            return NO_SUCH;
        }
        int cell = cellOf(now.where, g);
        switch (what) {
            case 0:
                return cell;
            case 1:
                return street.loud[g];
            case 2:
                return street.soft[g];
            default:
                laws.take(street, now.draught);
                return cell >= street.cells ? NONE : laws.noiseOf(g, cell + 1, now.depth);
        }
    }

    private static int cellOf(int where, int g) {
        int rest = where;
        for (int i = 0; i < g && i < MOST_GOERS; i++) {
            rest = rest / BASE;
        }
        return rest % BASE;
    }

    public int by(int set) {
        if (!isSet(set)) {
            return CANNOT_BE;
        }
        if (refusal(now, set) != 0) {
            return NOT_NOW;
        }
        laws.take(street, now.draught);
        return laws.depthAfter(now.where, now.depth, set, 0);
    }

    private boolean isSet(long set) {
        return set >= 0 && set < 1L << street.goers;
    }

    // ---- deeds

    /** Why an hour can't be, 0 if it can. */
    private int refusal(Stand stand, int set) {
        if (!isSet(set)) {
            return NONE_SUCH;
        }
        if ((set & street.pastAt(stand.where)) != 0) {
            return IS_PAST;
        }
        return stand.depth == 0 ? IS_AWAKE : 0;
    }

    private int stepHour(Stand stand, int set) {
        int why = refusal(stand, set);
        if (why == 0) {
            laws.take(street, stand.draught);
            stand.depth = laws.depthAfter(stand.where, stand.depth, set, 0);
            stand.where += shiftOf(set);
            stand.hours++;
        }
        return why;
    }

    private static int shiftOf(int set) {
        int shift = 0;
        for (int g = 0; g < MOST_GOERS; g++) {
            if ((set >> g & 1) == 1) {
                shift += WEIGHT[g];
            }
        }
        return shift;
    }

    private int tellHint(Stand stand, int p, int q, boolean bound) {
        if (!isPerson(p) || !isPerson(q) || p == q) {
            return NONE_SUCH;
        }
        stand.addHint(p, q, bound);
        return 0;
    }

    private boolean isPerson(int p) {
        return p >= 0 && p < street.people;
    }

    private int changeDraught(Stand stand, int n) {
        if (n < 0 || n > 9) {
            return NONE_SUCH;
        }
        stand.draught = n;
        return 0;
    }

    /** Does a deed as a tray tells it; why it can't be, 0 if it was done. */
    private int doDeed(Stand stand, long v) {
        if (v >= 0 && v <= 15) {
            return stepHour(stand, (int) v);
        }
        if (v >= 100 && v <= 109) {
            return changeDraught(stand, (int) v - 100);
        }
        if (v >= 200 && v <= 399) {
            int told = (int) v;
            return tellHint(stand, told / 10 % 10, told % 10, told < 300);
        }
        return NONE_SUCH;
    }

    /** Keeps how all stood ahead of a call, the eldest being forgotten. */
    private void keepForUndo(Stand ahead) {
        if (undoable == MOST_UNDONE) {
            Stand eldest = undos[0];
            for (int i = 1; i < MOST_UNDONE; i++) {
                undos[i - 1] = undos[i];
            }
            undos[MOST_UNDONE - 1] = eldest;
            undoable--;
        }
        undos[undoable].become(ahead);
        undoable++;
    }

    public int hour(int set) {
        spare.become(now);
        int why = stepHour(now, set);
        if (why != 0) {
            return WHY_NOT - why;
        }
        keepForUndo(spare);
        return now.depth;
    }

    public int hours(int n) {
        if (n < 1 || n > 99) {
            return WHY_NOT - NONE_SUCH;
        }
        if (now.depth == 0) {
            return WHY_NOT - IS_AWAKE;
        }
        keepForUndo(now);
        for (int i = 0; i < n && now.depth > 0; i++) {
            stepHour(now, 0);
        }
        return now.depth;
    }

    public int hint(int p, int q, int is) {
        spare.become(now);
        if (is < 0 || is > 1 || tellHint(now, p, q, is == 1) != 0) {
            return WHY_NOT - NONE_SUCH;
        }
        keepForUndo(spare);
        return learnSays().ways;
    }

    public int draught(int n) {
        spare.become(now);
        if (changeDraught(now, n) != 0) {
            return WHY_NOT - NONE_SUCH;
        }
        keepForUndo(spare);
        return spare.draught;
    }

    public int undo(int n) {
        if (n < 1 || n > MOST_UNDONE || n > undoable) {
            return CANNOT_BE;
        }
        undoable -= n;
        now.become(undos[undoable]);
        return undoable;
    }

    public int judge(int tray, int what) {
        if (!isTray(tray) || what < 0 || what > 3) {
            return NO_SUCH;
        }
        Tray told = trays[tray];
        if (told.missing) {
            return MISSING;
        }
        spare.become(now);
        int place = NONE;
        int why = 0;
        for (int i = 0; i < told.size && why == 0; i++) {
            why = doDeed(spare, told.get(i));
            if (why != 0) {
                place = i;
            }
        }
        switch (what) {
            case 0:
                return place;
            case 1:
                return why;
            case 2:
                return spare.depth;
            default:
                return street.pastAt(spare.where);
        }
    }

    public int perform(int tray) {
        if (!isTray(tray)) {
            return NO_SUCH;
        }
        Tray told = trays[tray];
        if (told.missing) {
            return MISSING;
        }
        spare.become(now);
        int done = 0;
        while (done < told.size && doDeed(now, told.get(done)) == 0) {
            done++;
        }
        if (done > 0) {
            keepForUndo(spare);
        }
        return done;
    }

    public int night(int seed, int times) {
        if (times < 1 || times > 40) {
            return CANNOT_BE;
        }
        spare.become(now);
        Draws draws = new Draws(seed);
        int done = 0;
        for (int i = 0; i < times; i++) {
            if (doDeed(now, draws.nextDeed()) == 0) {
                done++;
            }
        }
        if (done > 0) {
            keepForUndo(spare);
        }
        return done;
    }

    // ---- coming by

    private Walks layWalks() {
        if (walks == null) {
            walks = new Walks(laws);
        }
        laws.take(street, now.draught);
        walks.beginAt(now.where, now.depth);
        return walks;
    }

    public int soonest(int set) {
        if (!isSet(set)) {
            return CANNOT_BE;
        }
        return layWalks().hoursTo(set);
    }

    public int way(int set, int i) {
        if (!isSet(set) || i < 0) {
            return CANNOT_BE;
        }
        Walks from = layWalks();
        int hours = from.hoursTo(set);
        return i >= hours ? NONE : from.stepsAt(i);
    }

    public long rows(int set, int n) {
        if (!isSet(set) || n < 0 || n > 8) {
            return CANNOT_BE;
        }
        return layWalks().countRows(set, n);
    }

    public int can() {
        Walks all = layWalks();
        all.lookAtAll();
        return all.everPast();
    }

    public int most(int what) {
        if (what < 0 || what > 1) {
            return NO_SUCH;
        }
        if (now.depth == 0) {
            return NONE;
        }
        Walks all = layWalks();
        all.lookAtAll();
        int set = all.greatestPast();
        return what == 0 ? Integer.bitCount(set) : set;
    }

    public int deepest() {
        Walks all = layWalks();
        all.lookAtAll();
        return all.greatestDepth();
    }

    public int atOnce() {
        if (now.depth == 0) {
            return NOT_NOW;
        }
        laws.take(street, now.draught);
        int past = street.pastAt(now.where);
        int best = NONE;
        for (int set = 0; set < 1 << street.goers; set++) {
            boolean more = best == NONE || Integer.bitCount(set) > Integer.bitCount(best);
            if (more && (set & past) == 0 && laws.depthAfter(now.where, now.depth, set, 0) > 0) {
                best = set;
            }
        }
        return best;
    }

    public int stands() {
        Walks all = layWalks();
        all.lookAtAll();
        return all.found;
    }

    // ---- what it says

    private Says learnSays() {
        says.learn(street.people, now.bound, now.unbound);
        return says;
    }

    public int ways() {
        return learnSays().ways;
    }

    public int first(int p) {
        if (!isPerson(p)) {
            return NO_SUCH;
        }
        Says told = learnSays();
        return told.ways == 0 ? NONE : told.first[p];
    }

    public int surely(int p) {
        if (!isPerson(p)) {
            return NO_SUCH;
        }
        Says told = learnSays();
        for (int q = 0; q < street.people; q++) {
            if (told.ways > 0 && told.waysWith(p, q) == told.ways) {
                return q;
            }
        }
        return NONE;
    }

    public int odds(int p, int q, int what) {
        if (!isPerson(p) || !isPerson(q) || p == q || what < 0 || what > 1) {
            return NO_SUCH;
        }
        Says told = learnSays();
        if (told.ways == 0) {
            return NONE;
        }
        return partOf(told.waysWith(p, q), told.ways, what);
    }

    /** The number above (what 0) or below of a fraction in lowest terms. */
    private static int partOf(long above, long below, int what) {
        long a = above;
        long b = below;
        for (int i = 0; i < 100 && b != 0; i++) {
            long rest = a % b;
            a = b;
            b = rest;
        }
        if (a == 0) {
            return 0;
        }
        return (int) ((what == 0 ? above : below) / a);
    }

    public int clause() {
        Says told = learnSays();
        if (told.ways == 0) {
            return NONE;
        }
        int best = NONE;
        int least = told.ways + 1;
        for (int p = 0; p < street.people; p++) {
            for (int q = p + 1; q < street.people; q++) {
                int bound = told.waysWith(p, q);
                int left = Math.max(bound, told.ways - bound);
                if (left < least) {
                    least = left;
                    best = 10 * p + q;
                }
            }
        }
        return best;
    }

    public int hints(int what) {
        if (what < 0 || what > 1) {
            return NO_SUCH;
        }
        // each hint is kept from the one to the other and back
        return Long.bitCount(what == 1 ? now.bound : now.unbound) / 2;
    }

    // ---- slept

    public int draughts(int tray) {
        int refused = refuseSlept(tray);
        return refused != 0 ? refused : draughtsOf(trays[tray]);
    }

    private int refuseSlept(int tray) {
        if (!isTray(tray)) {
            return NO_SUCH;
        }
        Tray told = trays[tray];
        if (told.missing) {
            return MISSING;
        }
        if (told.size < 1 || told.size > 10) {
            return TOO_MANY;
        }
        for (int i = 0; i < told.size; i++) {
            if (told.get(i) < 0 || told.get(i) > 9) {
                return CANNOT_BE;
            }
        }
        return 0;
    }

    private int draughtsOf(Tray told) {
        int found = 0;
        for (int draught = 0; draught < 10; draught++) {
            if (sleptBy(draught, told)) {
                found |= 1 << draught;
            }
        }
        return found;
    }

    private boolean sleptBy(int draught, Tray told) {
        laws.take(street, draught);
        int depth = now.depth;
        for (int i = 0; i < told.size; i++) {
            if (depth > 0) {
                depth = laws.depthAfter(now.where, depth, 0, 0);
            }
            if (told.get(i) != depth) {
                return false;
            }
        }
        return true;
    }

    public int attempt(int tray) {
        int refused = refuseSlept(tray);
        if (refused != 0) {
            return refused;
        }
        if (now.depth == 0) {
            return NOT_NOW;
        }
        int found = draughtsOf(trays[tray]);
        if (found == 0) {
            return NONE;
        }
        int past = street.pastAt(now.where);
        int best = NONE;
        int least = DEPTHS + 1;
        for (int set = 0; set < 1 << street.goers; set++) {
            int alike = (set & past) == 0 ? mostAlike(found, set) : least;
            if (alike < least) {
                least = alike;
                best = set;
            }
        }
        return best;
    }

    /** The greatest number of draughts by which an hour with a set leads to one and the same depth. */
    private int mostAlike(int draughts, int set) {
        Arrays.fill(timesByDepth, 0);
        int most = 0;
        for (int draught = 0; draught < 10; draught++) {
            if ((draughts >> draught & 1) == 1) {
                laws.take(street, draught);
                int depth = laws.depthAfter(now.where, now.depth, set, 0);
                timesByDepth[depth]++;
                most = Math.max(most, timesByDepth[depth]);
            }
        }
        return most;
    }

    // ---- daring

    private Dares layDares(int set) {
        if (dareTable == null) {
            dareTable = new Dares(laws);
        }
        laws.take(street, now.draught);
        dareTable.side(set);
        return dareTable;
    }

    public int daring(int set) {
        if (!isSet(set)) {
            return CANNOT_BE;
        }
        if (now.depth == 0) {
            return NOT_NOW;
        }
        return layDares(set).outcome(now.where, now.depth, 0, 0);
    }

    public int dares(int set) {
        if (!isSet(set)) {
            return CANNOT_BE;
        }
        if (now.depth == 0) {
            return NOT_NOW;
        }
        return layDares(set).bestGoer(now.where, now.depth);
    }

    // ---- chances

    public int chance(int tray, int what) {
        int refused = refuseChance(tray, what);
        if (refused != 0) {
            return refused;
        }
        long below = weighHours(trays[tray]);
        return partOf(below - weights[0], below, what);
    }

    public int mean(int tray, int what) {
        int refused = refuseChance(tray, what);
        if (refused != 0) {
            return refused;
        }
        long below = weighHours(trays[tray]);
        long above = 0;
        for (int depth = 1; depth < DEPTHS; depth++) {
            above += depth * weights[depth];
        }
        return partOf(above, below, what);
    }

    private int refuseChance(int tray, int what) {
        if (!isTray(tray) || what < 0 || what > 1) {
            return NO_SUCH;
        }
        Tray told = trays[tray];
        if (told.missing) {
            return MISSING;
        }
        if (told.size < 1 || told.size > 6) {
            return TOO_MANY;
        }
        for (int i = 0; i < told.size; i++) {
            if (!isSet(told.get(i))) {
                return CANNOT_BE;
            }
        }
        int where = now.where;
        for (int i = 0; i < told.size; i++) {
            int set = (int) told.get(i);
            if ((set & street.pastAt(where)) != 0) {
                return NOT_NOW;
            }
            where += shiftOf(set);
        }
        return 0;
    }

    /** Lays how likely each depth is behind the told hours, in parts of the answer. */
    private long weighHours(Tray told) {
        laws.take(street, now.draught);
        Arrays.fill(weights, 0);
        weights[now.depth] = 1;
        int where = now.where;
        long parts = 1;
        for (int i = 0; i < told.size; i++) {
            int set = (int) told.get(i);
            weighHour(where, set);
            where += shiftOf(set);
            parts *= 10;
        }
        return parts;
    }

    private void weighHour(int where, int set) {
        Arrays.fill(weightsThen, 0);
        weightsThen[0] = weights[0] * 10;
        for (int depth = 1; depth < DEPTHS; depth++) {
            if (weights[depth] > 0) {
                int still = laws.depthAfter(where, depth, set, 0);
                int passed = laws.depthAfter(where, depth, set, street.cartNoise);
                weightsThen[still] += weights[depth] * (10 - street.cartOdds);
                weightsThen[passed] += weights[depth] * street.cartOdds;
            }
        }
        long[] used = weights;
        weights = weightsThen;
        weightsThen = used;
    }

    // ---- trays, images

    private static boolean isTray(int tray) {
        return tray >= 0 && tray < TRAYS;
    }

    public int numbers(int tray, int sort, int n) {
        if (!isTray(tray) || sort < 0 || sort > 3) {
            return NO_SUCH;
        }
        if (n < 0 || n > TRAY_PLACES) {
            return CANNOT_BE;
        }
        trays[tray].lay(sort, n);
        return 0;
    }

    public long write(int tray, int i, long v) {
        if (!isTray(tray)) {
            return NO_SUCH;
        }
        Tray told = trays[tray];
        if (told.missing) {
            return MISSING;
        }
        if (i < 0 || i >= told.size) {
            return NO_NUMBER;
        }
        told.put(i, v);
        return told.get(i);
    }

    public int lists(int tray, int set) {
        if (!isTray(tray)) {
            return NO_SUCH;
        }
        Tray into = trays[tray];
        if (into.missing) {
            return MISSING;
        }
        if (!isSet(set)) {
            return CANNOT_BE;
        }
        Walks from = layWalks();
        int hours = from.hoursTo(set);
        if (hours == NONE) {
            return NOT_NOW;
        }
        int written = Math.min(hours, into.size);
        for (int i = 0; i < written; i++) {
            into.put(i, from.stepsAt(i));
        }
        return written;
    }

    private static boolean isImage(int i) {
        return i >= 0 && i < IMAGES;
    }

    public int image(int i) {
        if (!isImage(i)) {
            return NO_SUCH;
        }
        imageStreets[i] = street;
        imageStands[i].become(now);
        return 0;
    }

    public int restore(int i) {
        if (!isImage(i)) {
            return NO_SUCH;
        }
        if (imageStreets[i] == null) {
            return NOT_NOW;
        }
        street = imageStreets[i];
        now.become(imageStands[i]);
        undoable = 0;
        return 0;
    }

    public int count(int what) {
        switch (what) {
            case 0:
                return street.cells;
            case 1:
                return street.goers;
            case 2:
                return street.people;
            case 3:
                return now.depth;
            case 4:
                return street.pastAt(now.where);
            case 5:
                return now.draught;
            case 6:
                return now.hours;
            case 7:
                return undoable;
            case 8:
                return reader.taped;
            case 9:
                return street.lines;
            default:
                return NONE;
        }
    }

    /** What a text tells; nothing of it changes once it has been read. */
    private static final class Street {
        /** Tells streets apart in tables that outlive one of them. */
        final int serial;
        int lines;
        int cells = 1;
        int house;
        int goers;
        final int[] loud = new int[MOST_GOERS];
        final int[] soft = new int[MOST_GOERS];
        int people;
        int cartOdds;
        int cartNoise;
        /** How all is at first. */
        final Stand start = new Stand();
        /** Laws as code (see Laws); null: none was told. */
        int[] noiseLaw;
        int[] sleepsLaw;

        Street(int serial) {
            this.serial = serial;
            start.depth = 9;
        }

        /** Who is past, as bits, when the goers are so. */
        int pastAt(int where) {
            int past = 0;
            int rest = where;
            for (int g = 0; g < goers; g++) {
                if (rest % BASE >= cells) {
                    past |= 1 << g;
                }
                rest = rest / BASE;
            }
            return past;
        }
    }

    /** All that deeds change. */
    private static final class Stand {
        int where;
        int depth;
        /** Bit 8 p + q, and bit 8 q + p, for a hint of p and q. */
        long bound;
        long unbound;
        int draught;
        int hours;

        void become(Stand other) {
            where = other.where;
            depth = other.depth;
            bound = other.bound;
            unbound = other.unbound;
            draught = other.draught;
            hours = other.hours;
        }

        void addHint(int p, int q, boolean isBound) {
            long pair = 1L << 8 * p + q | 1L << 8 * q + p;
            bound = isBound ? bound | pair : bound & ~pair;
            unbound = isBound ? unbound & ~pair : unbound | pair;
        }
    }

    private static final class Tray {
        boolean missing = true;
        int sort;
        int size;
        final long[] values = new long[TRAY_PLACES];

        void lay(int newSort, int newSize) {
            missing = false;
            sort = newSort;
            size = newSize;
            Arrays.fill(values, 0);
        }

        long get(int i) {
            return i >= 0 && i < size && i < TRAY_PLACES ? values[i] : 0;
        }

        void put(int i, long v) {
            if (i >= 0 && i < size && i < TRAY_PLACES) {
                values[i] = cut(v);
            }
        }

        long cut(long v) {
            switch (sort) {
                case 0:
                    return (byte) v;
                case 1:
                    return (short) v;
                case 2:
                    return (int) v;
                default:
                    return v;
            }
        }
    }

    /** The deeds of a night, as a tray would tell them. */
    private static final class Draws {
        int x;

        Draws(int seed) {
            x = seed;
        }

        int draw(int bound) {
            x = 1103515245 * x + 12345;
            return bound > 0 ? (x >>> 16) % bound : 0;
        }

        int nextDeed() {
            switch (draw(6)) {
                case 0:
                case 1:
                    return 0;
                case 2:
                case 3:
                    return 1 << draw(4);
                case 4:
                    return 100 + draw(10);
                default:
                    int p = draw(8);
                    return 300 + 10 * p + draw(8);
            }
        }
    }

    /**
     * Tells noise and depth by the laws of a street. A law is code for a stack: a number from 0 on is put there,
     * a word or a sign has a code below 0. What was told is kept, as searches ask for the same over and over.
     */
    private static final class Laws {
        static final int DRAUGHT = -1;
        static final int DEPTH = -2;
        static final int GOER = -3;
        static final int LOUD = -4;
        static final int SOFT = -5;
        static final int FAR = -6;
        static final int NOISE = -3;
        static final int STEPS = -4;
        static final int PAST = -5;
        static final int LAST_WORD = -6;
        static final int ADD = -11;
        static final int TAKE = -12;
        static final int TIMES = -13;
        static final int SAME = -14;
        static final int LESS = -15;
        static final int MORE = -16;
        static final int NOT = -17;
        static final int AND = -18;
        static final int OR = -19;
        static final int CHOOSE = -20;
        static final int KEPT_NOISE = 128;
        static final int MOST = 1000000;

        Street street = new Street(0);
        int draught;
        /** What is kept counts only if it was told for the street and draught of this stamp. */
        int stamp;
        final int[] keptNoises = new int[MOST_GOERS * BASE * DEPTHS];
        int[] keptDepths;
        final int[] words = new int[6];
        final int[] stack = new int[64];

        void take(Street newStreet, int newDraught) {
            street = newStreet;
            draught = newDraught;
            stamp = newStreet.serial * 10 + newDraught + 1;
            if (keptDepths == null && newStreet.sleepsLaw != null) {
                keptDepths = new int[DEPTHS * KEPT_NOISE * 25];
            }
        }

        /** The depth behind an hour, with a noise that isn't the goers'. */
        int depthAfter(int where, int depth, int set, int otherNoise) {
            int noise = otherNoise;
            int past = 0;
            int rest = where;
            for (int g = 0; g < street.goers; g++) {
                int cell = rest % BASE;
                rest = rest / BASE;
                if ((set >> g & 1) == 1) {
                    cell++;
                    noise += noiseOf(g, cell, depth);
                }
                if (cell >= street.cells) {
                    past++;
                }
            }
            return depthThen(depth, noise, Integer.bitCount(set), past);
        }

        int noiseOf(int goer, int target, int depth) {
            int far = Math.abs(target - street.house);
            if (goer < 0 || goer >= MOST_GOERS) {
                return 0;
            }
            if (street.noiseLaw == null) {
                return Math.max(0, street.loud[goer] - far);
            }
            int place = (goer * BASE + target) * DEPTHS + depth;
            boolean fits = place >= 0 && place < keptNoises.length;
            if (fits && keptNoises[place] >> 7 == stamp) {
                return keptNoises[place] & 127;
            }
            words[-1 - DRAUGHT] = draught;
            words[-1 - DEPTH] = depth;
            words[-1 - GOER] = goer;
            words[-1 - LOUD] = street.loud[goer];
            words[-1 - SOFT] = street.soft[goer];
            words[-1 - FAR] = far;
            int noise = Math.max(0, Math.min(99, run(street.noiseLaw)));
            if (fits) {
                keptNoises[place] = stamp << 7 | noise;
            }
            return noise;
        }

        int depthThen(int depth, int noise, int steps, int past) {
            if (street.sleepsLaw == null) {
                int told = noise == 0 ? depth + 1 : depth - noise;
                return Math.max(0, Math.min(9, told));
            }
            int place = ((depth * KEPT_NOISE + noise) * 5 + steps) * 5 + past;
            boolean fits = noise < KEPT_NOISE && place >= 0 && keptDepths != null && place < keptDepths.length;
            if (fits && keptDepths[place] >> 4 == stamp) {
                return keptDepths[place] & 15;
            }
            words[-1 - DRAUGHT] = draught;
            words[-1 - DEPTH] = depth;
            words[-1 - NOISE] = noise;
            words[-1 - STEPS] = steps;
            words[-1 - PAST] = past;
            int then = Math.max(0, Math.min(9, run(street.sleepsLaw)));
            if (fits) {
                keptDepths[place] = stamp << 4 | then;
            }
            return then;
        }

        private int run(int[] code) {
            int top = 0;
            for (int i = 0; i < code.length; i++) {
                int op = code[i];
                if (op >= LAST_WORD && top < stack.length) {
                    stack[top] = op >= 0 ? op : words[-1 - op];
                    top++;
                } else if (op == NOT && top >= 1) {
                    stack[top - 1] = 1 - stack[top - 1];
                } else if (op == CHOOSE && top >= 3) {
                    top -= 2;
                    stack[top - 1] = stack[top - 1] == 1 ? stack[top] : stack[top + 1];
                } else if (top >= 2) {
                    top--;
                    stack[top - 1] = join(op, stack[top - 1], stack[top]);
                }
            }
            return stack[0];
        }

        private static int join(int op, int a, int b) {
            long joined;
            switch (op) {
                case ADD:
                    joined = a + b;
                    break;
                case TAKE:
                    joined = a - b;
                    break;
                case TIMES:
                    joined = (long) a * b;
                    break;
                case SAME:
                    return a == b ? 1 : 0;
                case LESS:
                    return a < b ? 1 : 0;
                case MORE:
                    return a > b ? 1 : 0;
                case AND:
                    return a & b;
                default:
                    return a | b;
            }
            return joined > MOST ? MOST : joined < -MOST ? -MOST : (int) joined;
        }
    }

    /** Holds the tape and reads it; once there is a fault, no token comes any more: so all reading ends by itself. */
    private static final class Reader {
        static final int END = 0;
        static final int WORD = 1;
        static final int NUMBER = 2;
        static final int SIGN = 3;
        static final int NO_KIND = 4;
        static final int NO_TOKEN = 1;
        static final int OUT_OF_PLACE = 2;
        static final int OUT_OF_BOUNDS = 3;
        static final int ONE_TOO_MANY = 4;
        static final int DEEPEST_NEST = 6;

        int fault;
        int place = NONE;
        int taped;
        private final byte[] tape = new byte[TEXT_BYTES];
        private int length;
        private int kind;
        private int start;
        private int end;
        private int nest;
        private boolean inNoise;
        private boolean peopleTold;
        private final int[] code = new int[TEXT_BYTES];
        private int codeLength;
        private Street told = new Street(0);

        /** The highest byte comes first. */
        void putBytes(int four) {
            for (int shift = 24; shift >= 0 && taped < TEXT_BYTES; shift -= 8) {
                tape[taped] = (byte) (four >> shift);
                taped++;
            }
        }

        /** The street that the first bytes of the tape tell, null if there is a fault; the tape is empty then. */
        Street read(int bytes, int serial) {
            taped = 0;
            length = Math.min(bytes, TEXT_BYTES);
            fault = 0;
            place = NONE;
            end = 0;
            peopleTold = false;
            told = new Street(serial);
            advance();
            readHead();
            for (int i = 0; i < TEXT_BYTES && kind != END; i++) {
                readLine();
            }
            return fault == 0 ? told : null;
        }

        private void refuse(int newFault) {
            if (fault == 0) {
                fault = newFault;
                place = start;
            }
            kind = END;
        }

        private int byteAt(int i) {
            return i >= 0 && i < length ? tape[i] : 0;
        }

        private void advance() {
            start = end;
            while (start < length && (byteAt(start) == 10 || byteAt(start) == 32)) {
                start++;
            }
            kind = start < length && fault == 0 ? kindOf(byteAt(start)) : END;
            end = kind == SIGN ? start + 1 : start;
            if (kind == WORD || kind == NUMBER) {
                while (end < length && kindOf(byteAt(end)) == kind) {
                    end++;
                }
            }
            if (kind == NO_KIND || kind == NUMBER && end - start > 3) {
                refuse(NO_TOKEN);
            }
        }

        private static int kindOf(int c) {
            if (c >= 'a' && c <= 'z') {
                return WORD;
            }
            if (c >= '0' && c <= '9') {
                return NUMBER;
            }
            switch (c) {
                case ';':
                case ':':
                case '+':
                case '-':
                case '*':
                case '(':
                case ')':
                case '[':
                case ']':
                case '=':
                case '<':
                case '>':
                    return SIGN;
                default:
                    return NO_KIND;
            }
        }

        private int numberHere() {
            int number = 0;
            for (int i = start; i < end && i < start + 3; i++) {
                number = number * 10 + byteAt(i) - '0';
            }
            return number;
        }

        private boolean isWord(String word) {
            if (kind != WORD || end - start != word.length()) {
                return false;
            }
            for (int i = 0; i < word.length(); i++) {
                if (byteAt(start + i) != word.charAt(i)) {
                    return false;
                }
            }
            return true;
        }

        private boolean isSign(char sign) {
            return kind == SIGN && byteAt(start) == sign;
        }

        private void passWord(String word) {
            if (isWord(word)) {
                advance();
            } else {
                refuse(OUT_OF_PLACE);
            }
        }

        private void passSign(char sign) {
            if (isSign(sign)) {
                advance();
            } else {
                refuse(OUT_OF_PLACE);
            }
        }

        private int passNumber(int least, int most) {
            if (kind != NUMBER) {
                refuse(OUT_OF_PLACE);
                return 0;
            }
            int number = numberHere();
            if (number < least || number > most) {
                refuse(OUT_OF_BOUNDS);
                return 0;
            }
            advance();
            return number;
        }

        private int passWordNumber(String word, int least, int most) {
            passWord(word);
            return passNumber(least, most);
        }

        private void readHead() {
            told.cells = passWordNumber("street", 1, 6);
            told.house = passWordNumber("house", 0, told.cells - 1);
            told.start.depth = passWordNumber("depth", 1, 9);
            endLine();
        }

        private void endLine() {
            passSign(';');
            told.lines++;
        }

        private void readLine() {
            if (isWord("goer")) {
                readGoer();
            } else if (isWord("people")) {
                readPeople();
            } else if (isWord("bound") || isWord("not")) {
                readHint(isWord("bound"));
            } else if (isWord("cart")) {
                told.cartOdds = passWordNumber("cart", 0, 10);
                told.cartNoise = passWordNumber("noise", 0, 9);
            } else if (isWord("draught")) {
                told.start.draught = passWordNumber("draught", 0, 9);
            } else if (isWord("noise")) {
                told.noiseLaw = readLaw(true);
            } else if (isWord("sleeps")) {
                told.sleepsLaw = readLaw(false);
            } else {
                refuse(OUT_OF_PLACE);
            }
            endLine();
        }

        private void readGoer() {
            if (told.goers >= MOST_GOERS) {
                refuse(ONE_TOO_MANY);
                return;
            }
            advance();
            int loud = passWordNumber("loud", 0, 9);
            int at = 0;
            int soft = 0;
            for (int i = 0; i < TEXT_BYTES && (isWord("at") || isWord("soft")); i++) {
                if (isWord("at")) {
                    at = passWordNumber("at", 0, told.cells);
                } else {
                    soft = passWordNumber("soft", 0, 9);
                }
            }
            told.loud[told.goers] = loud;
            told.soft[told.goers] = soft;
            told.start.where += at * WEIGHT[told.goers];
            told.goers++;
        }

        private void readPeople() {
            if (peopleTold) {
                refuse(OUT_OF_PLACE);
                return;
            }
            peopleTold = true;
            told.people = passWordNumber("people", 0, MOST_PEOPLE);
        }

        private void readHint(boolean bound) {
            advance();
            int p = passNumber(0, told.people - 1);
            if (kind == NUMBER && numberHere() == p) {
                refuse(OUT_OF_BOUNDS);
            }
            int q = passNumber(0, told.people - 1);
            if (fault == 0) {
                told.start.addHint(p, q, bound);
            }
        }

        private int[] readLaw(boolean noise) {
            advance();
            passSign(':');
            inNoise = noise;
            nest = 0;
            codeLength = 0;
            readSum();
            return Arrays.copyOf(code, codeLength);
        }

        private void emit(int op) {
            if (codeLength < code.length) {
                code[codeLength] = op;
                codeLength++;
            }
        }

        /** Enters what may stand only six times within one another; false: it can't be entered. */
        private boolean enter() {
            if (nest >= DEEPEST_NEST) {
                refuse(ONE_TOO_MANY);
                return false;
            }
            nest++;
            advance();
            return true;
        }

        private void readSum() {
            readTerm();
            for (int i = 0; i < TEXT_BYTES && (isSign('+') || isSign('-')); i++) {
                int op = isSign('+') ? Laws.ADD : Laws.TAKE;
                advance();
                readTerm();
                emit(op);
            }
        }

        private void readTerm() {
            readAtom();
            for (int i = 0; i < TEXT_BYTES && isSign('*'); i++) {
                advance();
                readAtom();
                emit(Laws.TIMES);
            }
        }

        private void readAtom() {
            if (kind == NUMBER) {
                emit(numberHere());
                advance();
            } else if (isSign('(')) {
                if (enter()) {
                    readSum();
                    passSign(')');
                    nest--;
                }
            } else if (isWord("if")) {
                if (enter()) {
                    readChoice();
                    nest--;
                }
            } else {
                int op = lawWord();
                if (op == 0) {
                    refuse(OUT_OF_PLACE);
                } else {
                    emit(op);
                    advance();
                }
            }
        }

        private void readChoice() {
            readTruth();
            passWord("then");
            readSum();
            passWord("else");
            readSum();
            passWord("end");
            emit(Laws.CHOOSE);
        }

        /** The code of a word of the law that is read, 0 if it is none. */
        private int lawWord() {
            if (isWord("draught")) {
                return Laws.DRAUGHT;
            }
            if (isWord("depth")) {
                return Laws.DEPTH;
            }
            if (inNoise && isWord("goer")) {
                return Laws.GOER;
            }
            if (inNoise && isWord("loud")) {
                return Laws.LOUD;
            }
            if (inNoise && isWord("soft")) {
                return Laws.SOFT;
            }
            if (inNoise && isWord("far")) {
                return Laws.FAR;
            }
            if (!inNoise && isWord("noise")) {
                return Laws.NOISE;
            }
            if (!inNoise && isWord("steps")) {
                return Laws.STEPS;
            }
            return !inNoise && isWord("past") ? Laws.PAST : 0;
        }

        private void readTruth() {
            readBoth();
            for (int i = 0; i < TEXT_BYTES && isWord("or"); i++) {
                advance();
                readBoth();
                emit(Laws.OR);
            }
        }

        private void readBoth() {
            readUnit();
            for (int i = 0; i < TEXT_BYTES && isWord("and"); i++) {
                advance();
                readUnit();
                emit(Laws.AND);
            }
        }

        private void readUnit() {
            if (isWord("not")) {
                if (enter()) {
                    readUnit();
                    emit(Laws.NOT);
                    nest--;
                }
            } else if (isSign('[')) {
                if (enter()) {
                    readTruth();
                    passSign(']');
                    nest--;
                }
            } else {
                readComparison();
            }
        }

        private void readComparison() {
            readSum();
            int op = 0;
            if (isSign('=')) {
                op = Laws.SAME;
            } else if (isSign('<')) {
                op = Laws.LESS;
            } else if (isSign('>')) {
                op = Laws.MORE;
            }
            if (op == 0) {
                refuse(OUT_OF_PLACE);
                return;
            }
            advance();
            readSum();
            emit(op);
        }
    }

    /**
     * All that rows lead to from one state on, found hour by hour and by sets in their order: so the row by which
     * a state is found is the shortest, of like ones the first, and the first state found that is right is the one
     * of the first row. A state is 10 times where the goers are, and the depth.
     */
    private static final class Walks {
        static final int UNSEEN = 0;
        static final int START = -1;

        final Laws laws;
        Street street;
        int draught;
        /** Where the goers are at first, NONE ahead of all searches. */
        int start = NONE;
        int startDepth;
        /** 16 times the state from which it was found, the set, and 1. */
        final int[] foundBy = new int[STATES];
        final int[] order = new int[STATES];
        int looked;
        int found;
        int goal;
        int goalHours;
        final long[] rowsTo = new long[STATES];
        final long[] rowsHere = new long[DEPTHS];
        /** By sets of those that can step: their noise, how far they shift the number, how many get past. */
        final int[] noise = new int[16];
        final int[] shift = new int[16];
        final int[] passing = new int[16];
        int open;
        int past;

        Walks(Laws laws) {
            this.laws = laws;
            street = laws.street;
        }

        /** Begins anew, unless what is known was found from the same state on. */
        void beginAt(int where, int depth) {
            boolean same = street == laws.street && draught == laws.draught;
            if (same && start == where && startDepth == depth) {
                return;
            }
            for (int i = 0; i < found; i++) {
                foundBy[order[i]] = UNSEEN;
            }
            street = laws.street;
            draught = laws.draught;
            start = where;
            startDepth = depth;
            looked = 0;
            found = 0;
            find(where * DEPTHS + depth, START);
        }

        private void find(int state, int by) {
            if (state >= 0 && state < STATES && found < STATES && foundBy[state] == UNSEEN) {
                foundBy[state] = by;
                order[found] = state;
                found++;
            }
        }

        /** Lays what each set would do from here. */
        private void laySets(int where, int depth) {
            open = 0;
            past = 0;
            int rest = where;
            for (int g = 0; g < street.goers; g++) {
                int then = rest % BASE + 1;
                rest = rest / BASE;
                if (then > street.cells) {
                    past++;
                } else {
                    int alone = 1 << g;
                    open |= alone;
                    noise[alone] = laws.noiseOf(g, then, depth);
                    shift[alone] = WEIGHT[g];
                    passing[alone] = then == street.cells ? 1 : 0;
                }
            }
            for (int set = 1; set <= open; set++) {
                int least = set & -set;
                int others = set ^ least;
                if (others != 0 && (set & ~open) == 0) {
                    noise[set] = noise[least] + noise[others];
                    shift[set] = shift[least] + shift[others];
                    passing[set] = passing[least] + passing[others];
                }
            }
        }

        private int depthThen(int depth, int set) {
            return laws.depthThen(depth, noise[set], Integer.bitCount(set), past + passing[set]);
        }

        /** Looks at one more state; false: all were looked at. */
        private boolean lookOn() {
            if (looked >= found) {
                return false;
            }
            int state = order[looked];
            looked++;
            int where = state / DEPTHS;
            int depth = state % DEPTHS;
            if (depth == 0) {
                return true;
            }
            laySets(where, depth);
            for (int set = 0; set <= open; set++) {
                if ((set & ~open) == 0) {
                    int then = (where + shift[set]) * DEPTHS + depthThen(depth, set);
                    find(then, 16 * state + set + 1);
                }
            }
            return true;
        }

        void lookAtAll() {
            for (int i = 0; i < STATES && looked < found; i++) {
                lookOn();
            }
        }

        /** How many hours it takes till a set is past, NONE if it can't be. */
        int hoursTo(int set) {
            int at = 0;
            for (int i = 0; i < 2 * STATES; i++) {
                if (at < found) {
                    if (isReached(order[at], set)) {
                        goal = order[at];
                        goalHours = hoursOf(goal);
                        return goalHours;
                    }
                    at++;
                } else if (!lookOn()) {
                    return NONE;
                }
            }
            return NONE;
        }

        private boolean isReached(int state, int set) {
            return state % DEPTHS > 0 && (set & ~street.pastAt(state / DEPTHS)) == 0;
        }

        private int hoursOf(int state) {
            int hours = 0;
            int by = foundBy[state];
            while (by > 0 && hours < STATES) {
                by = foundBy[(by - 1) / 16];
                hours++;
            }
            return hours;
        }

        /** Who steps in an hour on the way to what hoursTo found last. */
        int stepsAt(int hour) {
            int by = foundBy[goal];
            for (int i = goalHours - 1; i > hour && by > 0; i--) {
                by = foundBy[(by - 1) / 16];
            }
            return by > 0 ? (by - 1) % 16 : 0;
        }

        /** This and what follows speaks only of what was found so far. */
        int everPast() {
            int ever = 0;
            for (int i = 0; i < found; i++) {
                if (order[i] % DEPTHS > 0) {
                    ever |= street.pastAt(order[i] / DEPTHS);
                }
            }
            return ever;
        }

        /** The set of the most goers that can be past at one time, of like ones the least. */
        int greatestPast() {
            int best = 0;
            for (int i = 0; i < found; i++) {
                int set = order[i] % DEPTHS > 0 ? street.pastAt(order[i] / DEPTHS) : 0;
                int more = Integer.bitCount(set) - Integer.bitCount(best);
                if (more > 0 || more == 0 && set < best) {
                    best = set;
                }
            }
            return best;
        }

        int greatestDepth() {
            int deepest = 0;
            for (int i = 0; i < found; i++) {
                deepest = Math.max(deepest, order[i] % DEPTHS);
            }
            return deepest;
        }

        long countRows(int set, int hours) {
            if (startDepth == 0) {
                return 0;
            }
            rowsTo[start * DEPTHS + startDepth] = 1;
            for (int i = 0; i < hours; i++) {
                addHour();
            }
            long rows = 0;
            for (int state = start * DEPTHS; state < WEIGHT[street.goers] * DEPTHS; state++) {
                if (rowsTo[state] > 0 && isReached(state, set)) {
                    rows += rowsTo[state];
                }
                rowsTo[state] = 0;
            }
            return rows;
        }

        /** A step only makes the number of where they are greater, so from the top down no row is moved twice. */
        private void addHour() {
            for (int where = WEIGHT[street.goers] - 1; where >= start; where--) {
                for (int depth = 1; depth < DEPTHS; depth++) {
                    rowsHere[depth] = rowsTo[where * DEPTHS + depth];
                    rowsTo[where * DEPTHS + depth] = 0;
                }
                for (int depth = 1; depth < DEPTHS; depth++) {
                    if (rowsHere[depth] > 0) {
                        moveRows(where, depth);
                    }
                }
            }
        }

        private void moveRows(int where, int depth) {
            laySets(where, depth);
            for (int set = 0; set <= open; set++) {
                int then = (set & ~open) == 0 ? depthThen(depth, set) : 0;
                int state = (where + shift[set]) * DEPTHS + then;
                if (then > 0 && state < STATES) {
                    rowsTo[state] += rowsHere[depth];
                }
            }
        }
    }

    /** The ways to bind people two and two by all hints. */
    private static final class Says {
        int ways;
        final int[] first = new int[MOST_PEOPLE];
        private int people = NONE;
        private long bound;
        private long unbound;
        private final int[] partner = new int[MOST_PEOPLE];
        private final int[] together = new int[MOST_PEOPLE * MOST_PEOPLE];

        void learn(int newPeople, long newBound, long newUnbound) {
            if (people == newPeople && bound == newBound && unbound == newUnbound) {
                return;
            }
            people = Math.min(newPeople, MOST_PEOPLE);
            bound = newBound;
            unbound = newUnbound;
            ways = 0;
            Arrays.fill(together, 0);
            bindLeast((1 << people) - 1, people % 2 == 1, 0);
        }

        int waysWith(int p, int q) {
            int pair = MOST_PEOPLE * p + q;
            return pair >= 0 && pair < together.length ? together[pair] : 0;
        }

        /** The least of those that are free is bound, last of all left: so the first way comes first. */
        private void bindLeast(int free, boolean mayLeave, int level) {
            if (free == 0) {
                addWay();
                return;
            }
            if (level > MOST_PEOPLE) {
                return;
            }
            int p = 0;
            while (p < people - 1 && (free >> p & 1) == 0) {
                p++;
            }
            for (int q = p + 1; q < people; q++) {
                if ((free >> q & 1) == 1 && mayBind(p, q)) {
                    partner[p] = q;
                    partner[q] = p;
                    bindLeast(free & ~(1 << p) & ~(1 << q), mayLeave, level + 1);
                }
            }
            if (mayLeave && boundTo(p) == 0) {
                partner[p] = NONE;
                bindLeast(free & ~(1 << p), false, level + 1);
            }
        }

        private int boundTo(int p) {
            return (int) (bound >>> 8 * p) & 255;
        }

        private boolean mayBind(int p, int q) {
            boolean hintedNot = (unbound >>> 8 * p + q & 1) == 1;
            return !hintedNot && (boundTo(p) & ~(1 << q)) == 0 && (boundTo(q) & ~(1 << p)) == 0;
        }

        private void addWay() {
            ways++;
            for (int p = 0; p < people; p++) {
                if (ways == 1) {
                    first[p] = partner[p];
                }
                if (partner[p] != NONE) {
                    together[MOST_PEOPLE * p + partner[p]]++;
                }
            }
        }
    }

    /** How two sides fare that dare each other by turns: 1 the other one loses, 0 nobody, -1 who is on. */
    private static final class Dares {
        static final int DEEPEST_TURN = 40;

        final Laws laws;
        Street street;
        int draught;
        final int[] sides = new int[2];
        /** What is known counts only with this stamp: of one street, draught and set. */
        int stamp;
        final int[] known = new int[STATES * 2];

        Dares(Laws laws) {
            this.laws = laws;
            street = laws.street;
            sides[0] = NONE;
        }

        void side(int set) {
            if (street != laws.street || draught != laws.draught || sides[0] != set) {
                street = laws.street;
                draught = laws.draught;
                sides[0] = set;
                sides[1] = (1 << street.goers) - 1 & ~set;
                stamp++;
            }
        }

        /** A turn in which nobody can step goes on in the same level: then the other side can. */
        int outcome(int where, int depth, int side, int level) {
            int open = (sides[0] | sides[1]) & ~street.pastAt(where);
            if (open == 0 || level > DEEPEST_TURN) {
                return 0;
            }
            if ((open & sides[side & 1]) != 0) {
                return bestOf(where, depth, side, level);
            }
            int then = laws.depthAfter(where, depth, 0, 0);
            return then == 0 ? -1 : -bestOf(where, then, 1 - side, level);
        }

        private int bestOf(int where, int depth, int side, int level) {
            int place = (where * DEPTHS + depth) * 2 + side;
            boolean fits = place >= 0 && place < known.length;
            if (fits && known[place] >> 2 == stamp) {
                return (known[place] & 3) - 1;
            }
            int open = sides[side & 1] & ~street.pastAt(where);
            int best = -1;
            for (int g = 0; g < MOST_GOERS && best < 1; g++) {
                if ((open >> g & 1) == 1) {
                    best = Math.max(best, byStep(where, depth, side, g, level));
                }
            }
            if (fits) {
                known[place] = stamp << 2 | best + 1;
            }
            return best;
        }

        private int byStep(int where, int depth, int side, int goer, int level) {
            int then = laws.depthAfter(where, depth, 1 << goer, 0);
            return then == 0 ? -1 : -outcome(where + WEIGHT[goer], then, 1 - side, level + 1);
        }

        /** Whom the first side lets step, NONE if all of it are past. */
        int bestGoer(int where, int depth) {
            int open = sides[0] & ~street.pastAt(where);
            int best = open == 0 ? 0 : bestOf(where, depth, 0, 0);
            for (int g = 0; g < MOST_GOERS; g++) {
                if ((open >> g & 1) == 1 && byStep(where, depth, 0, g, 0) == best) {
                    return g;
                }
            }
            return NONE;
        }
    }
}
