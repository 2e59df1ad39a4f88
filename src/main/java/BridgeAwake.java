import java.util.Arrays;

/** A bridge that is there while PAIRS of PEOPLE tell it things; ../shared/DOC.md says what each call answers. */
public final class BridgeAwake {
    public static final int BAD = -1, FULL = -2, FINDING = -3, STATE = -4, SPENT = -6, NONE = -9;

    private static final int NOTHING = 1, BEYOND = 2, UNLIKE = 3, NOUGHT = 4, SIZE = 5;
    /** What the checks answer where nothing is refused; every refusal is below it. */
    private static final int FINE = 0;

    private static final int ROWS = 6, TEXTS = 4, KEPT = 3;
    private static final int ROW_MOST = 40, TEXT_MOST = 60, BLANK = 32;
    private static final int STRENGTH_MOST = 60, UP_MOST = 30, TOLD_MOST = 15;
    private static final int NIGHT_HOURS = 12, FIGURES = 10, PARTS = 12;
    private static final int LOVERS_HOURS = 4, CHILDREN_HOURS = 3;
    private static final int WATCHES_MOST = 20, SEARCH_MOST = 3, TRIPLE = 3;
    private static final int LOTS_MOST = 20;
    private static final long LOTS_FACTOR = 48271L, LOTS_MODULUS = 2147483647L;
    private static final int COUNTS = 11, FACTS = 6;

    private final Row[] rows = new Row[ROWS];
    private final Row[] texts = new Row[TEXTS];
    private final Night[] kept = new Night[KEPT];
    private final Folk folk = new Folk();
    private final Reader reader = new Reader();
    private final Night night = new Night();
    private final Search search = new Search();
    private final Matching matching = new Matching();
    private final int[] findingCounts = new int[SIZE + 1];
    private int latestFinding = 0;
    private int latestAsked = 0;
    private long latestUpper = 0;
    private long latestLower = 1;

    public BridgeAwake() {
        for (int r = 0; r < ROWS; r++) {
            rows[r] = new Row(ROW_MOST, 0);
        }
        for (int t = 0; t < TEXTS; t++) {
            texts[t] = new Row(TEXT_MOST, BLANK);
        }
        for (int k = 0; k < KEPT; k++) {
            kept[k] = new Night();
        }
    }

    // ---- 1 rows, texts, bridges

    public int row(int r, int n) {
        if (!isRow(r) || n > ROW_MOST) {
            return BAD;
        }
        if (n < 0) {
            return found(SIZE);
        }
        rows[r].begin(n);
        return n;
    }

    public int lay(int r, int i, int v) {
        if (!isRow(r)) {
            return BAD;
        }
        int refused = refusePlace(rows[r], i);
        return refused < FINE ? refused : tellAsked(rows[r].swap(i, v));
    }

    public int at(int r, int i) {
        if (!isRow(r)) {
            return BAD;
        }
        int refused = refusePlace(rows[r], i);
        return refused < FINE ? refused : tellAsked(rows[r].get(i));
    }

    public int tear(int r) {
        if (!isRow(r)) {
            return BAD;
        }
        if (!rows[r].there) {
            return found(NOTHING);
        }
        rows[r].there = false;
        return 1;
    }

    public int copy(int r, int i, int to, int j, int n) {
        if (!isRow(r) || !isRow(to)) {
            return BAD;
        }
        if (n < 0) {
            return found(SIZE);
        }
        if (!rows[r].there || !rows[to].there) {
            return found(NOTHING);
        }
        if (!rows[r].holdsSpan(i, n) || !rows[to].holdsSpan(j, n)) {
            return found(BEYOND);
        }
        System.arraycopy(rows[r].places, i, rows[to].places, j, n);
        return 1;
    }

    public int mean(int r) {
        if (!isRow(r)) {
            return BAD;
        }
        if (!rows[r].there) {
            return found(NOTHING);
        }
        int size = rows[r].size;
        if (size <= 0) {
            return found(NOUGHT);
        }
        return tellAsked((int) (rows[r].sum() / size));
    }

    public int text(int t, int n) {
        if (!isText(t) || n > TEXT_MOST) {
            return BAD;
        }
        if (n < 0) {
            return found(SIZE);
        }
        texts[t].begin(n);
        return n;
    }

    public int put(int t, int i, int v) {
        if (!isText(t)) {
            return BAD;
        }
        int refused = refusePlace(texts[t], i);
        return refused < FINE ? refused : 1000 + texts[t].swap(i, (byte) v);
    }

    public int fault(int t) {
        if (!isText(t)) {
            return BAD;
        }
        return texts[t].there ? reader.read(texts[t]) : found(NOTHING);
    }

    public int bridge(int t) {
        if (!isText(t)) {
            return BAD;
        }
        if (!texts[t].there) {
            return found(NOTHING);
        }
        if (reader.read(texts[t]) != NONE) {
            return STATE;
        }
        folk.become(reader.folk);
        night.begin(folk);
        for (int k = 0; k < KEPT; k++) {
            kept[k].there = false;
        }
        return folk.size;
    }

    public int one(int i, int what) {
        if (!folk.has(i) || what < 0 || what >= FACTS) {
            return BAD;
        }
        return tellAsked(fact(i, what));
    }

    public int mark(int i, int kind) {
        if (!folk.has(i) || kind <= Folk.TALKER || kind > Folk.WIDOWER) {
            return BAD;
        }
        if (!Folk.isOfKind(folk.kinds[i], kind)) {
            return found(UNLIKE);
        }
        Hold now = night.hold;
        int hour = now.hour();
        switch (kind) {
            case Folk.BORE:
                return folk.tellsAs(i, Folk.TALKER, now.ups[i], hour) - now.told[i];
            case Folk.LOVER:
                return hour < LOVERS_HOURS ? 0 : NIGHT_HOURS - hour;
            case Folk.CHILD:
                return Math.max(0, CHILDREN_HOURS - hour);
            case Folk.PREACHER:
                return preachedPairs(i);
            default:
                return now.told[i] - folk.tellsAs(i, Folk.LOVER, now.ups[i], hour);
        }
    }

    public int talk(int i, int j) {
        return folk.isPair(i, j) ? night.hold.pairTells(folk, i, j) : BAD;
    }

    // ---- 2 deeds

    public int watch(int i, int j) {
        if (!folk.isPair(i, j)) {
            return BAD;
        }
        return night.hasRoom(1) ? night.doWatch(folk, i, j) : FULL;
    }

    public int load(int v) {
        if (!isStrength(v)) {
            return BAD;
        }
        if (folk.isNobody()) {
            return STATE;
        }
        return night.hasRoom(1) ? night.doLoad(v) : FULL;
    }

    public int coffee(int i) {
        if (!folk.has(i)) {
            return BAD;
        }
        if (night.hold.ups[i] == 0) {
            return STATE;
        }
        if (night.coffee <= 0) {
            return SPENT;
        }
        return night.hasRoom(1) ? night.doCoffee(folk, i) : FULL;
    }

    public int undo(int n) {
        if (n < 0 || n > night.done) {
            return BAD;
        }
        int undone = night.done - n;
        if (undone > 0) {
            night.goBackTo(folk, n);
        }
        return undone;
    }

    public int keep(int k) {
        if (!isKeptPlace(k)) {
            return BAD;
        }
        if (folk.isNobody()) {
            return STATE;
        }
        kept[k].become(night);
        kept[k].there = true;
        return night.done;
    }

    public int on(int k) {
        if (!isKeptPlace(k)) {
            return BAD;
        }
        if (!kept[k].there) {
            return found(NOTHING);
        }
        night.become(kept[k]);
        return night.done;
    }

    // ---- 3 watches to come (aside)

    public int best(int n, int r) {
        if (!isTurns(n) || !isRow(r)) {
            return BAD;
        }
        if (folk.isNobody()) {
            return STATE;
        }
        int greatest = search.strongest(folk, night.hold, n);
        rows[r].begin(n);
        for (int k = 0; k < n; k++) {
            rows[r].swap(k, search.bestWay[k]);
        }
        return greatest;
    }

    public int through(int r) {
        int refused = refuseWatches(r);
        if (refused < FINE) {
            return refused;
        }
        Hold aside = search.beginAside(night.hold);
        int least = aside.strength;
        for (int k = 0; k < rows[r].size; k++) {
            aside.passWatch(folk, rows[r].get(k) / 10, rows[r].get(k) % 10);
            least = Math.min(least, aside.strength);
        }
        tellAsked(least);
        return aside.strength;
    }

    public int when(int r, int v) {
        if (!isStrength(v)) {
            return BAD;
        }
        int refused = refuseWatches(r);
        if (refused < FINE) {
            return refused;
        }
        Hold aside = search.beginAside(night.hold);
        for (int k = 0; k < rows[r].size; k++) {
            if (aside.strength >= v) {
                return k;
            }
            aside.passWatch(folk, rows[r].get(k) / 10, rows[r].get(k) % 10);
        }
        return aside.strength >= v ? rows[r].size : NONE;
    }

    public int bear(int r) {
        int refused = refuseStrengths(r);
        if (refused < FINE) {
            return refused;
        }
        search.waysFor(folk, night.hold, rows[r], false);
        if (search.ways == 0) {
            return NONE;
        }
        tellAsked(search.fewest);
        return Integer.bitCount(search.fewest);
    }

    // ---- 4 who had the watch

    public int sagged(int r) {
        int refused = refuseStrengths(r);
        if (refused < FINE) {
            return refused;
        }
        search.waysFor(folk, night.hold, rows[r], true);
        tellShare(search.ways, 1);
        return tellAsked(search.firstWatch);
    }

    public int sure(int r) {
        int refused = refuseStrengths(r);
        if (refused < FINE) {
            return refused;
        }
        search.waysFor(folk, night.hold, rows[r], true);
        if (search.ways == 0) {
            return found(NOUGHT);
        }
        tellAsked(folk.everybody() & ~search.ever);
        return search.always;
    }

    // ---- 5 who one is

    public int lasts(int i, int r) {
        int refused = refuseTriples(i, r);
        if (refused < FINE) {
            return refused;
        }
        int bits = 0;
        for (int lasting = 0; lasting < FIGURES; lasting++) {
            if (agrees(rows[r], folk.kinds[i], folk.lively[i], lasting)) {
                bits |= 1 << lasting;
            }
        }
        return bits;
    }

    public int kinds(int i, int r) {
        int refused = refuseTriples(i, r);
        return refused < FINE ? refused : possibleKinds(i, rows[r]);
    }

    public int test(int i, int r) {
        int refused = refuseTriples(i, r);
        if (refused < FINE) {
            return refused;
        }
        int possible = possibleKinds(i, rows[r]);
        if (possible == 0) {
            return NONE;
        }
        int bestHour = 0;
        int leastPart = Folk.KINDS + 1;
        for (int hour = 0; hour < NIGHT_HOURS; hour++) {
            int part = greatestPartAlike(i, possible, hour);
            if (part < leastPart) {
                leastPart = part;
                bestHour = hour;
            }
        }
        tellAsked(leastPart);
        return bestHour;
    }

    // ---- 6 pairs

    public int pairs(int r) {
        if (!isRow(r)) {
            return BAD;
        }
        if (folk.isNobody()) {
            return STATE;
        }
        int most = matching.pairAll(folk, night.hold);
        rows[r].begin(folk.size);
        for (int i = 0; i < folk.size; i++) {
            rows[r].swap(i, matching.bestPartners[i]);
        }
        return most;
    }

    // ---- 7 by turns

    public int duel(int n) {
        if (!isTurns(n)) {
            return BAD;
        }
        return folk.isNobody() ? STATE : search.byTurns(folk, night.hold, n);
    }

    // ---- 8 chances, lots

    public int odds(int i, int j, int v, int p) {
        if (!folk.isPair(i, j) || !isStrength(v) || !isPart(p)) {
            return BAD;
        }
        long share = 0;
        for (int awake = 0; awake < 4; awake++) {
            if (night.hold.behindHalfAsleep(folk, i, j, awake) >= v) {
                share += sleepWeight(awake, p);
            }
        }
        return tellShare(share, PARTS * PARTS);
    }

    public int mid(int i, int j, int p) {
        if (!folk.isPair(i, j) || !isPart(p)) {
            return BAD;
        }
        long sum = 0;
        for (int awake = 0; awake < 4; awake++) {
            sum += (long) night.hold.behindHalfAsleep(folk, i, j, awake) * sleepWeight(awake, p);
        }
        return tellShare(sum, PARTS * PARTS);
    }

    public int lots(int n, int seed) {
        if (n < 1 || n > LOTS_MOST || seed < 1 || seed >= LOTS_MODULUS) {
            return BAD;
        }
        if (folk.isNobody()) {
            return STATE;
        }
        if (!night.hasRoom(n)) {
            return FULL;
        }
        long number = seed;
        for (int k = 0; k < n; k++) {
            number = number * LOTS_FACTOR % LOTS_MODULUS;
            doByLot(number);
        }
        return night.hold.strength;
    }

    // ---- 9 what is told

    public int asked() {
        return latestAsked;
    }

    public long upper() {
        return latestUpper;
    }

    public long lower() {
        return latestLower;
    }

    public int count(int what) {
        switch (what) {
            case 0:
                return folk.size;
            case 1:
                return night.hold.hours;
            case 2:
                return night.done;
            case 3:
                return night.hold.strength;
            case 4:
                return night.coffee;
            case 5:
                return night.crossed;
            case 6:
                return night.fell;
            case 7:
                return folk.lovers();
            case 8:
                return howManyThere(rows);
            case 9:
                return howManyThere(texts);
            case 10:
                return howManyKept();
            default:
                return BAD;
        }
    }

    public int finding() {
        return latestFinding;
    }

    public int findings(int f) {
        return f >= NOTHING && f <= SIZE ? findingCounts[f] : BAD;
    }

    public long digest() {
        long h = 17;
        for (int what = 0; what < COUNTS; what++) {
            h = 31 * h + count(what);
        }
        for (int i = 0; i < folk.size; i++) {
            for (int what = 0; what < FACTS; what++) {
                h = 31 * h + fact(i, what);
            }
        }
        for (int k = 0; k < KEPT; k++) {
            h = 31 * h + (kept[k].there ? kept[k].done : -1);
        }
        return addPlaces(addPlaces(h, rows), texts);
    }

    // ---- arguments

    private static boolean isRow(int r) {
        return r >= 0 && r < ROWS;
    }

    private static boolean isText(int t) {
        return t >= 0 && t < TEXTS;
    }

    private static boolean isKeptPlace(int k) {
        return k >= 0 && k < KEPT;
    }

    private static boolean isStrength(int v) {
        return v >= 0 && v <= STRENGTH_MOST;
    }

    private static boolean isTurns(int n) {
        return n >= 0 && n <= SEARCH_MOST;
    }

    private static boolean isPart(int p) {
        return p >= 0 && p <= PARTS;
    }

    private int found(int finding) {
        latestFinding = finding;
        if (finding >= NOTHING && finding <= SIZE) {
            findingCounts[finding]++;
        }
        return FINDING;
    }

    private int refusePlace(Row row, int i) {
        if (!row.there) {
            return found(NOTHING);
        }
        return row.holds(i) ? FINE : found(BEYOND);
    }

    private int refuseWatches(int r) {
        if (!isRow(r)) {
            return BAD;
        }
        if (folk.isNobody()) {
            return STATE;
        }
        if (!rows[r].there) {
            return found(NOTHING);
        }
        if (rows[r].size > WATCHES_MOST) {
            return found(SIZE);
        }
        for (int k = 0; k < rows[r].size; k++) {
            if (!folk.isWatch(rows[r].get(k))) {
                return found(UNLIKE);
            }
        }
        return FINE;
    }

    /** For LOADS too: they are as many and as great as STRENGTHS. */
    private int refuseStrengths(int r) {
        if (!isRow(r)) {
            return BAD;
        }
        if (folk.isNobody()) {
            return STATE;
        }
        if (!rows[r].there) {
            return found(NOTHING);
        }
        if (rows[r].size < 1 || rows[r].size > SEARCH_MOST) {
            return found(SIZE);
        }
        for (int k = 0; k < rows[r].size; k++) {
            if (!isStrength(rows[r].get(k))) {
                return found(UNLIKE);
            }
        }
        return FINE;
    }

    private int refuseTriples(int i, int r) {
        if (!folk.has(i) || !isRow(r)) {
            return BAD;
        }
        Row row = rows[r];
        if (!row.there) {
            return found(NOTHING);
        }
        if (row.size % TRIPLE != 0) {
            return found(SIZE);
        }
        for (int k = 0; k < row.size; k += TRIPLE) {
            if (!row.isWithin(k, UP_MOST) || !row.isWithin(k + 1, NIGHT_HOURS - 1)
                    || !row.isWithin(k + 2, TOLD_MOST)) {
                return found(UNLIKE);
            }
        }
        return FINE;
    }

    // ---- what calls share

    private int tellAsked(int told) {
        latestAsked = told;
        return 1;
    }

    private int tellShare(long part, long whole) {
        long common = commonMeasure(part, whole);
        if (common > 0) {
            latestUpper = part / common;
            latestLower = whole / common;
        }
        return 1;
    }

    private static long commonMeasure(long a, long b) {
        long greater = Math.max(a, b);
        long lesser = Math.min(a, b);
        // Each second turn halves it at least, so 128 turns are enough for any longs.
        for (int turn = 0; turn < 128 && lesser > 0; turn++) {
            long left = greater % lesser;
            greater = lesser;
            lesser = left;
        }
        return greater;
    }

    private int fact(int i, int what) {
        if (!folk.has(i)) {
            return 0;
        }
        switch (what) {
            case 0:
                return folk.kinds[i];
            case 1:
                return folk.lively[i];
            case 2:
                return folk.lasting[i];
            case 3:
                return night.hold.ups[i];
            case 4:
                return night.hold.told[i];
            default:
                return folk.quarrels[i];
        }
    }

    private int preachedPairs(int i) {
        int preached = 0;
        for (int j = 0; j < folk.size; j++) {
            if (j != i && night.hold.pairMeans(folk, i, j) > 0) {
                preached++;
            }
        }
        return preached;
    }

    private static boolean agrees(Row triples, int kind, int lively, int lasting) {
        for (int k = 0; k < triples.size; k += TRIPLE) {
            int told = Folk.tells(kind, lively, lasting, triples.get(k), triples.get(k + 1));
            if (told != triples.get(k + 2)) {
                return false;
            }
        }
        return true;
    }

    private int possibleKinds(int i, Row triples) {
        int bits = 0;
        if (folk.has(i)) {
            for (int kind = 0; kind < Folk.KINDS; kind++) {
                if (agrees(triples, kind, folk.lively[i], folk.lasting[i])) {
                    bits |= 1 << kind;
                }
            }
        }
        return bits;
    }

    private int greatestPartAlike(int i, int possible, int hour) {
        int greatest = 0;
        for (int kind = 0; kind < Folk.KINDS; kind++) {
            int alike = 0;
            int told = toldAs(i, kind, hour);
            for (int other = 0; other < Folk.KINDS; other++) {
                if ((possible >> other & 1) == 1 && toldAs(i, other, hour) == told) {
                    alike++;
                }
            }
            if ((possible >> kind & 1) == 1) {
                greatest = Math.max(greatest, alike);
            }
        }
        return greatest;
    }

    private int toldAs(int i, int kind, int hour) {
        return folk.has(i) ? folk.tellsAs(i, kind, night.hold.ups[i], hour) : 0;
    }

    /** How many of the 144 cases have just these of a PAIR awake (bit 0 the first one, bit 1 the other). */
    private static int sleepWeight(int awake, int p) {
        int first = (awake & 1) == 0 ? p : PARTS - p;
        int other = (awake & 2) == 0 ? p : PARTS - p;
        return first * other;
    }

    private void doByLot(long number) {
        int people = folk.size;
        if (people < 2) {
            return;
        }
        if (number % 4 == 0) {
            night.doLoad((int) (number / 8 % 30));
            return;
        }
        int i = (int) (number / 8 % people);
        int further = 1 + (int) (number / 64 % (people - 1));
        night.doWatch(folk, i, (i + further) % people);
    }

    private static int howManyThere(Row[] some) {
        int there = 0;
        for (int k = 0; k < some.length; k++) {
            if (some[k].there) {
                there++;
            }
        }
        return there;
    }

    private int howManyKept() {
        int there = 0;
        for (int k = 0; k < KEPT; k++) {
            if (kept[k].there) {
                there++;
            }
        }
        return there;
    }

    private static long addPlaces(long before, Row[] some) {
        long h = before;
        for (int k = 0; k < some.length; k++) {
            Row row = some[k];
            h = 31 * h + (row.there ? row.size : -1);
            for (int i = 0; row.there && i < row.size; i++) {
                h = 31 * h + row.get(i);
            }
        }
        return h;
    }

    /** A ROW or a TEXT; its places are made once, as calls that make it anew may be many. */
    private static final class Row {
        private final int[] places;
        private final int blank;
        private int size = 0;
        private boolean there = false;

        Row(int most, int blank) {
            this.places = new int[Math.max(0, most)];
            this.blank = blank;
        }

        void begin(int n) {
            there = true;
            size = Math.max(0, Math.min(n, places.length));
            Arrays.fill(places, blank);
        }

        boolean holds(int i) {
            return i >= 0 && i < size;
        }

        boolean holdsSpan(int from, int n) {
            return from >= 0 && from <= size && n >= 0 && n <= size - from;
        }

        boolean isWithin(int i, int most) {
            return get(i) >= 0 && get(i) <= most;
        }

        /** 0 beyond its places: the reader of TEXTS relies on it, as 0 is no sign of its language. */
        int get(int i) {
            return holds(i) ? places[i] : 0;
        }

        int swap(int i, int v) {
            int was = get(i);
            if (holds(i)) {
                places[i] = v;
            }
            return was;
        }

        long sum() {
            long sum = 0;
            for (int i = 0; i < size; i++) {
                sum += places[i];
            }
            return sum;
        }
    }

    /** PEOPLE as a TEXT tells them, and what the BRIDGE has at first. */
    private static final class Folk {
        static final int TALKER = 0, BORE = 1, LOVER = 2, CHILD = 3, PREACHER = 4, WIDOWER = 5, KINDS = 6;
        static final int MOST = 6;

        private final int[] kinds = new int[MOST];
        private final int[] lively = new int[MOST];
        private final int[] lasting = new int[MOST];
        private final int[] quarrels = new int[MOST];
        private int size = 0;
        private int strength = 0;
        private int coffee = 0;

        void clear() {
            size = 0;
            strength = 0;
            coffee = 0;
            Arrays.fill(quarrels, 0);
        }

        void become(Folk other) {
            size = other.size;
            strength = other.strength;
            coffee = other.coffee;
            for (int i = 0; i < MOST; i++) {
                kinds[i] = other.kinds[i];
                lively[i] = other.lively[i];
                lasting[i] = other.lasting[i];
                quarrels[i] = other.quarrels[i];
            }
        }

        void add(int kind, int howLively, int howLasting) {
            if (size >= 0 && size < MOST) {
                kinds[size] = kind;
                lively[size] = howLively;
                lasting[size] = howLasting;
                size++;
            }
        }

        void letQuarrel(int i, int j) {
            if (isPair(i, j)) {
                quarrels[i] |= 1 << j;
                quarrels[j] |= 1 << i;
            }
        }

        boolean isNobody() {
            return size == 0;
        }

        boolean has(int i) {
            return i >= 0 && i < size;
        }

        boolean isPair(int i, int j) {
            return has(i) && has(j) && i != j;
        }

        boolean isWatch(int number) {
            return number >= 0 && number / 10 < number % 10 && has(number % 10);
        }

        int everybody() {
            return (1 << size) - 1;
        }

        int lovers() {
            int lovers = 0;
            for (int i = 0; i < size; i++) {
                if (isOfKind(kinds[i], LOVER)) {
                    lovers++;
                }
            }
            return lovers;
        }

        int tellsAs(int i, int kind, int up, int hour) {
            return has(i) ? tells(kind, lively[i], lasting[i], up, hour) : 0;
        }

        static boolean isOfKind(int kind, int wanted) {
            return kind == wanted || wanted == TALKER || (kind == PREACHER && wanted == BORE)
                    || (kind == WIDOWER && wanted == LOVER);
        }

        static int tells(int kind, int lively, int lasting, int up, int hour) {
            int over = kind == WIDOWER ? 0 : Math.max(0, up - lasting);
            int plainly = Math.max(0, lively - 2 * over);
            switch (kind) {
                case BORE:
                    return plainly / 2;
                case LOVER:
                case WIDOWER:
                    return hour < LOVERS_HOURS ? plainly + 2 : plainly;
                case CHILD:
                    return hour < CHILDREN_HOURS ? plainly + 3 : 0;
                case PREACHER:
                    return Math.max(0, plainly / 2 - 1);
                default:
                    return plainly;
            }
        }
    }

    /** Reads a TEXT into PEOPLE of its own, so that a TEXT with a FAULT leaves the BRIDGE as it is. */
    private static final class Reader {
        private final Folk folk = new Folk();
        private int place = 0;

        /** The FAULT's place, or NONE. */
        int read(Row text) {
            folk.clear();
            place = 0;
            skipBlanks(text);
            int wrong = readHead(text);
            // Each turn reads an item of three bytes, so there are less turns than bytes.
            for (int turn = 0; turn < TEXT_MOST && wrong == NONE; turn++) {
                skipBlanks(text);
                if (!text.holds(place)) {
                    break;
                }
                wrong = text.get(place) == 'q' ? readQuarrel(text) : readOne(text);
            }
            return wrong == NONE && folk.size < 2 ? text.size : wrong;
        }

        private void skipBlanks(Row text) {
            while (place < text.size && text.get(place) == BLANK) {
                place++;
            }
        }

        private int readHead(Row text) {
            if (text.get(place) != 'h') {
                return place;
            }
            int tens = figure(text, place + 1);
            if (tens < 0) {
                return place + 1;
            }
            int units = figure(text, place + 2);
            if (units < 0) {
                return place + 2;
            }
            if (10 * tens + units > 40) {
                return place + 1;
            }
            int cups = figure(text, place + 3);
            if (cups < 0) {
                return place + 3;
            }
            folk.strength = 10 * tens + units;
            folk.coffee = cups;
            place += 4;
            return NONE;
        }

        private int readOne(Row text) {
            int kind = kindOf(text.get(place));
            if (kind < 0 || folk.size >= Folk.MOST) {
                return place;
            }
            int howLively = figure(text, place + 1);
            if (howLively < 0) {
                return place + 1;
            }
            int howLasting = figure(text, place + 2);
            if (howLasting < 0) {
                return place + 2;
            }
            folk.add(kind, howLively, howLasting);
            place += 3;
            return NONE;
        }

        private int readQuarrel(Row text) {
            int first = figure(text, place + 1);
            if (!folk.has(first)) {
                return place + 1;
            }
            int other = figure(text, place + 2);
            if (!folk.isPair(first, other)) {
                return place + 2;
            }
            folk.letQuarrel(first, other);
            place += 3;
            return NONE;
        }

        private static int figure(Row text, int i) {
            int sign = text.get(i);
            return sign >= '0' && sign <= '9' ? sign - '0' : -1;
        }

        private static int kindOf(int letter) {
            switch (letter) {
                case 't':
                    return Folk.TALKER;
                case 'b':
                    return Folk.BORE;
                case 'l':
                    return Folk.LOVER;
                case 'c':
                    return Folk.CHILD;
                case 'p':
                    return Folk.PREACHER;
                case 'w':
                    return Folk.WIDOWER;
                default:
                    return -1;
            }
        }
    }

    /** What WATCHES change; what each one TELLS is kept beside it, as the searches ask it for each PAIR. */
    private static final class Hold {
        private final int[] ups = new int[Folk.MOST];
        private final int[] told = new int[Folk.MOST];
        private int strength = 0;
        private int hours = 0;

        void begin(Folk folk) {
            Arrays.fill(ups, 0);
            strength = folk.strength;
            hours = 0;
            listen(folk);
        }

        void become(Hold other) {
            for (int i = 0; i < Folk.MOST; i++) {
                ups[i] = other.ups[i];
                told[i] = other.told[i];
            }
            strength = other.strength;
            hours = other.hours;
        }

        int hour() {
            return Math.floorMod(hours, NIGHT_HOURS);
        }

        int pairTells(Folk folk, int i, int j) {
            if (!folk.isPair(i, j)) {
                return 0;
            }
            int means = pairMeans(folk, i, j);
            boolean preached = folk.kinds[i] == Folk.PREACHER || folk.kinds[j] == Folk.PREACHER;
            return Math.max(0, preached ? means / 2 : means);
        }

        /** What a PAIR tells ahead of any preaching; it may be below 0. */
        int pairMeans(Folk folk, int i, int j) {
            if (!folk.has(i) || !folk.has(j)) {
                return 0;
            }
            int together = told[i] + told[j];
            return (folk.quarrels[i] >> j & 1) == 1 ? together - 3 : together;
        }

        int behind(Folk folk, int i, int j) {
            return strengthWith(pairTells(folk, i, j));
        }

        /** Behind a WATCH in which bit 0 of awake tells whether i is, bit 1 whether j is. */
        int behindHalfAsleep(Folk folk, int i, int j, int awake) {
            if (!folk.isPair(i, j) || awake == 0) {
                return strengthWith(0);
            }
            if (awake == 3) {
                return behind(folk, i, j);
            }
            return strengthWith(awake == 1 ? told[i] : told[j]);
        }

        private int strengthWith(int telling) {
            return Math.min(STRENGTH_MOST, strength / 2 + telling);
        }

        void passWatch(Folk folk, int i, int j) {
            strength = strengthWith(pairTells(folk, i, j));
            hours++;
            for (int k = 0; k < Folk.MOST; k++) {
                ups[k] = k == i || k == j ? Math.min(UP_MOST, ups[k] + 1) : Math.max(0, ups[k] - 2);
            }
            listen(folk);
        }

        void drink(Folk folk, int i) {
            if (folk.has(i)) {
                ups[i] = 0;
                listen(folk);
            }
        }

        private void listen(Folk folk) {
            int hour = hour();
            for (int i = 0; i < Folk.MOST; i++) {
                told[i] = Folk.tells(folk.kinds[i], folk.lively[i], folk.lasting[i], ups[i], hour);
            }
        }
    }

    /** A BRIDGE with its DEEDS; PEOPLE are not in it, as kept BRIDGES go when these change. */
    private static final class Night {
        static final int DEEDS_MOST = 40;
        /** DEEDS are noted by one number: WATCHES by both ones, the others from these on. */
        private static final int LOAD_DEED = 100, COFFEE_DEED = 200;

        private final Hold hold = new Hold();
        private final int[] deeds = new int[DEEDS_MOST];
        private int done = 0;
        private int coffee = 0;
        private int crossed = 0;
        private int fell = 0;
        private boolean there = false;

        void begin(Folk folk) {
            hold.begin(folk);
            done = 0;
            coffee = folk.coffee;
            crossed = 0;
            fell = 0;
        }

        void become(Night other) {
            hold.become(other.hold);
            for (int k = 0; k < DEEDS_MOST; k++) {
                deeds[k] = other.deeds[k];
            }
            done = other.done;
            coffee = other.coffee;
            crossed = other.crossed;
            fell = other.fell;
        }

        boolean hasRoom(int more) {
            return more <= DEEDS_MOST - done;
        }

        int doWatch(Folk folk, int i, int j) {
            note(10 * i + j);
            hold.passWatch(folk, i, j);
            return hold.strength;
        }

        int doLoad(int v) {
            note(LOAD_DEED + v);
            if (hold.strength >= v) {
                crossed++;
                return 1;
            }
            fell++;
            hold.strength = 0;
            return 0;
        }

        int doCoffee(Folk folk, int i) {
            note(COFFEE_DEED + i);
            hold.drink(folk, i);
            coffee--;
            return coffee;
        }

        /** Does the first n DEEDS again from the beginning: what a FALL or the bounds lost can't be reckoned back. */
        void goBackTo(Folk folk, int n) {
            begin(folk);
            for (int k = 0; k < n && k < DEEDS_MOST; k++) {
                int deed = deeds[k];
                if (deed >= COFFEE_DEED) {
                    doCoffee(folk, deed - COFFEE_DEED);
                } else if (deed >= LOAD_DEED) {
                    doLoad(deed - LOAD_DEED);
                } else {
                    doWatch(folk, deed / 10, deed % 10);
                }
            }
        }

        private void note(int deed) {
            if (done >= 0 && done < DEEDS_MOST) {
                deeds[done] = deed;
                done++;
            }
        }
    }

    /** Goes through rows of up to three WATCHES, one Hold for each depth. */
    private static final class Search {
        private final Hold[] holds = new Hold[SEARCH_MOST];
        private final int[] way = new int[SEARCH_MOST];
        private final int[] bestWay = new int[SEARCH_MOST];
        private final int[] wanted = new int[SEARCH_MOST];
        private int length = 0;
        private boolean exactly = false;
        private int greatest = 0;
        private int ways = 0;
        private int firstWatch = NONE;
        private int always = 0;
        private int ever = 0;
        private int fewest = 0;

        Search() {
            for (int depth = 0; depth < SEARCH_MOST; depth++) {
                holds[depth] = new Hold();
            }
        }

        Hold beginAside(Hold now) {
            holds[0].become(now);
            return holds[0];
        }

        int strongest(Folk folk, Hold now, int n) {
            beginAside(now);
            length = Math.max(0, Math.min(n, SEARCH_MOST));
            if (length == 0) {
                return now.strength;
            }
            greatest = -1;
            seekStrongest(this, folk, 0);
            return greatest;
        }

        private static void seekStrongest(Search s, Folk folk, int depth) {
            if (depth < 0 || depth >= s.length || depth >= SEARCH_MOST) {
                return;
            }
            for (int i = 0; i < folk.size; i++) {
                for (int j = i + 1; j < folk.size; j++) {
                    s.way[depth] = 10 * i + j;
                    if (depth + 1 < s.length) {
                        s.copyDeeper(depth).passWatch(folk, i, j);
                        seekStrongest(s, folk, depth + 1);
                    } else {
                        s.noteStrength(s.holds[depth].behind(folk, i, j));
                    }
                }
            }
        }

        private void noteStrength(int strength) {
            if (strength > greatest) {
                greatest = strength;
                for (int k = 0; k < SEARCH_MOST; k++) {
                    bestWay[k] = way[k];
                }
            }
        }

        /** Notes all rows of WATCHES behind each of which STRENGTH is exactly, or at least, as wanted. */
        void waysFor(Folk folk, Hold now, Row strengths, boolean exact) {
            beginAside(now);
            length = Math.max(0, Math.min(strengths.size, SEARCH_MOST));
            for (int k = 0; k < length; k++) {
                wanted[k] = strengths.get(k);
            }
            exactly = exact;
            ways = 0;
            firstWatch = NONE;
            always = folk.everybody();
            ever = 0;
            fewest = 0;
            seekWays(this, folk, 0, 0);
        }

        private static void seekWays(Search s, Folk folk, int depth, int who) {
            if (depth < 0 || depth >= s.length || depth >= SEARCH_MOST) {
                return;
            }
            for (int i = 0; i < folk.size; i++) {
                for (int j = i + 1; j < folk.size; j++) {
                    if (!s.suits(depth, s.holds[depth].behind(folk, i, j))) {
                        continue;
                    }
                    s.way[depth] = 10 * i + j;
                    int both = who | 1 << i | 1 << j;
                    if (depth + 1 < s.length) {
                        s.copyDeeper(depth).passWatch(folk, i, j);
                        seekWays(s, folk, depth + 1, both);
                    } else {
                        s.noteWay(both);
                    }
                }
            }
        }

        private boolean suits(int depth, int strength) {
            if (depth < 0 || depth >= SEARCH_MOST) {
                return false;
            }
            return exactly ? strength == wanted[depth] : strength >= wanted[depth];
        }

        private void noteWay(int who) {
            if (ways == 0) {
                firstWatch = way[0];
            }
            ways++;
            always &= who;
            ever |= who;
            int fewer = Integer.bitCount(who) - Integer.bitCount(fewest);
            if (fewest == 0 || fewer < 0 || (fewer == 0 && who < fewest)) {
                fewest = who;
            }
        }

        int byTurns(Folk folk, Hold now, int n) {
            beginAside(now);
            length = Math.max(0, Math.min(n, SEARCH_MOST));
            return length == 0 ? now.strength : playTurn(this, folk, 0);
        }

        private static int playTurn(Search s, Folk folk, int depth) {
            if (depth < 0 || depth >= s.length || depth >= SEARCH_MOST) {
                return 0;
            }
            boolean wantsMuch = depth % 2 == 0;
            int value = wantsMuch ? -1 : STRENGTH_MOST + 1;
            for (int i = 0; i < folk.size; i++) {
                for (int j = i + 1; j < folk.size; j++) {
                    int atLast;
                    if (depth + 1 < s.length) {
                        s.copyDeeper(depth).passWatch(folk, i, j);
                        atLast = playTurn(s, folk, depth + 1);
                    } else {
                        atLast = s.holds[depth].behind(folk, i, j);
                    }
                    value = wantsMuch ? Math.max(value, atLast) : Math.min(value, atLast);
                }
            }
            return value;
        }

        private Hold copyDeeper(int depth) {
            int deeper = Math.max(0, Math.min(depth + 1, SEARCH_MOST - 1));
            if (depth >= 0 && depth < deeper) {
                holds[deeper].become(holds[depth]);
            }
            return holds[deeper];
        }
    }

    /** All PEOPLE in PAIRS; ways come in rising order, so that the first of the best is kept. */
    private static final class Matching {
        /** Nobody's number, and unlike NONE, which stands for one who is left. */
        private static final int NOT_YET = -1;

        private final int[] partners = new int[Folk.MOST];
        private final int[] bestPartners = new int[Folk.MOST];
        private int most = 0;

        int pairAll(Folk folk, Hold now) {
            Arrays.fill(partners, NOT_YET);
            most = -1;
            pairFrom(this, folk, now, 0, folk.size % 2 == 1);
            return most;
        }

        private static void pairFrom(Matching m, Folk folk, Hold now, int i, boolean mayLeave) {
            if (i < 0 || i >= folk.size || i >= Folk.MOST) {
                m.noteWay(folk, now);
                return;
            }
            if (m.partners[i] != NOT_YET) {
                pairFrom(m, folk, now, i + 1, mayLeave);
                return;
            }
            if (mayLeave) {
                m.partners[i] = NONE;
                pairFrom(m, folk, now, i + 1, false);
            }
            for (int j = i + 1; j < folk.size; j++) {
                if (m.partners[j] == NOT_YET) {
                    m.partners[i] = j;
                    m.partners[j] = i;
                    pairFrom(m, folk, now, i + 1, mayLeave);
                    m.partners[j] = NOT_YET;
                }
            }
            m.partners[i] = NOT_YET;
        }

        private void noteWay(Folk folk, Hold now) {
            int together = 0;
            for (int i = 0; i < folk.size; i++) {
                if (partners[i] > i) {
                    together += now.pairTells(folk, i, partners[i]);
                }
            }
            if (together > most) {
                most = together;
                for (int i = 0; i < Folk.MOST; i++) {
                    bestPartners[i] = partners[i];
                }
            }
        }
    }
}
