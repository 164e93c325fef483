public final class DrawerGloves {
    public static final int BAD = -1, FULL = -2, FINDING = -3, STATE = -4, SPENT = -6, NONE = -9;

    private static final int FINE = 0;
    private static final int NOTHING = 1, BEYOND = 2, UNLIKE = 3, NOUGHT = 4, SIZE = 5;
    private static final int FINDINGS = 5;

    private static final int ROWS = 6, ROW_PLACES = 40;
    private static final int TEXTS = 4, TEXT_PLACES = 60;
    private static final int MISSING = -1;
    private static final int BLANK = 32;

    private static final int GLOVES = 8, SETS = 256;
    private static final int KINDS = 6, SORTS = 10, HANDS = 2;
    private static final int GLOVE = 0, MITTEN = 1, EITHER = 2, STRING = 3, LINED = 4, STRETCH = 5;
    private static final int MOST_WARM = 9, LINING_LASTS = 6;
    private static final int LEFT = 0, RIGHT = 1;

    private static final int INSIDE = 0, LOST = 1, OUT = 2;
    private static final int DEEDS = 40, KEPT = 3;
    private static final int IDLE = 0, WORN = 1, LOSS = 2, RETURN = 3, THROW = 4;

    private static final int DAYS = 3, TURNS = 6, MOST_PAIRS = 4, CHANCES = 12;
    private static final int LOTS = 20;
    private static final long LOTS_FACTOR = 48271L, LOTS_MODULUS = 2147483647L;
    private static final int MORE_JOINED = 200, MORE_LED = 100, MORE_PUT = 1000;
    private static final int WHATS = 7, COUNTS = 11;

    private final Rows rows;
    private final Rows texts;
    private final Reading reading;
    private final Drawer chest;
    private final Deeds[] kept;
    private final Makings makings;
    private final Calendar calendar;
    private final Guess guess;
    private final Rivals rivals;
    private final Chances chances;
    private final int[] found;
    private int lastFound;
    private int lastAsked;

    public DrawerGloves() {
        rows = new Rows(ROWS, ROW_PLACES, 0);
        texts = new Rows(TEXTS, TEXT_PLACES, BLANK);
        reading = new Reading();
        chest = new Drawer();
        kept = new Deeds[KEPT];
        for (int k = 0; k < KEPT; k++) {
            kept[k] = new Deeds();
            kept[k].size = MISSING;
        }
        makings = new Makings();
        calendar = new Calendar();
        guess = new Guess();
        rivals = new Rivals();
        chances = new Chances();
        found = new int[FINDINGS + 1];
        lastFound = 0;
        lastAsked = 0;
    }

    // ---- 1 rows, texts, drawers

    public int row(int r, int n) {
        if (!rows.isNumber(r) || n > ROW_PLACES) return BAD;
        if (n < 0) return finds(SIZE);
        rows.begin(r, n);
        return n;
    }

    public int lay(int r, int i, int v) {
        int refused = refusedPlace(r, i);
        if (refused != FINE) return refused;
        int was = rows.read(r, i);
        rows.write(r, i, v);
        return tells(was);
    }

    public int at(int r, int i) {
        int refused = refusedPlace(r, i);
        if (refused != FINE) return refused;
        return tells(rows.read(r, i));
    }

    public int tear(int r) {
        int refused = refusedRow(r);
        if (refused != FINE) return refused;
        rows.drop(r);
        return 1;
    }

    public int copy(int r, int i, int to, int j, int n) {
        if (!rows.isNumber(r) || !rows.isNumber(to)) return BAD;
        if (n < 0) return finds(SIZE);
        if (!rows.isThere(r) || !rows.isThere(to)) return finds(NOTHING);
        if (!rows.reaches(r, i, n) || !rows.reaches(to, j, n)) return finds(BEYOND);
        rows.move(r, i, to, j, n);
        return 1;
    }

    public int mean(int r) {
        int refused = refusedRow(r);
        if (refused != FINE) return refused;
        int size = rows.sizeOf(r);
        if (size <= 0) return finds(NOUGHT);
        return tells((int) (rows.total(r) / size));
    }

    public int text(int t, int n) {
        if (!texts.isNumber(t) || n > TEXT_PLACES) return BAD;
        if (n < 0) return finds(SIZE);
        texts.begin(t, n);
        return n;
    }

    public int put(int t, int i, int v) {
        int refused = refusedText(t);
        if (refused != FINE) return refused;
        if (!texts.holds(t, i)) return finds(BEYOND);
        int was = texts.read(t, i);
        texts.write(t, i, (byte) v);
        return was + MORE_PUT;
    }

    public int fault(int t) {
        int refused = refusedText(t);
        if (refused != FINE) return refused;
        return reading.faultOf(texts, t);
    }

    public int drawer(int t) {
        int refused = refusedText(t);
        if (refused != FINE) return refused;
        if (reading.faultOf(texts, t) != NONE) return STATE;
        chest.fill(reading);
        for (int k = 0; k < KEPT; k++) kept[k].size = MISSING;
        return chest.size;
    }

    public int glove(int i, int what) {
        if (!chest.has(i) || what < 0 || what >= WHATS) return BAD;
        return tells(chest.gloves[i].tell(what));
    }

    public int mark(int i, int kind) {
        if (!chest.has(i) || kind <= GLOVE || kind >= KINDS) return BAD;
        if (!chest.gloves[i].isOf(kind)) return finds(UNLIKE);
        switch (kind) {
            case MITTEN: return chest.gloves[i].warmth() - chest.gloves[i].bareWarmth();
            case EITHER: return chest.matesOf(i);
            case STRING: return chest.sameSortAs(i);
            case LINED: return Math.max(0, LINING_LASTS - chest.gloves[i].wear);
            default: return guess.gainOfStretch(chest, i);
        }
    }

    public int pair(int i, int j) {
        if (!chest.has(i) || !chest.has(j) || i == j) return BAD;
        return chest.gloves[i].goodWith(chest.gloves[j]);
    }

    // ---- 2 deeds

    public int wear(int i, int j) {
        if (!chest.has(i) || !chest.has(j) || i == j) return BAD;
        int worth = chest.gloves[i].goodWith(chest.gloves[j]);
        if (!chest.isInside(i) || !chest.isInside(j) || worth == NONE) return STATE;
        if (chest.deeds.roomLeft() < 1) return FULL;
        chest.act(WORN, i, j);
        return worth;
    }

    public int lose(int i) {
        if (!chest.has(i)) return BAD;
        if (!chest.canBeLost(i)) return STATE;
        if (chest.deeds.roomLeft() < 1) return FULL;
        chest.act(LOSS, i, i);
        return chest.howManyInside();
    }

    public int back(int i) {
        if (!chest.has(i)) return BAD;
        if (chest.gloves[i].where != LOST) return STATE;
        if (!chest.hasRoom()) return SPENT;
        if (chest.deeds.roomLeft() < 1) return FULL;
        chest.act(RETURN, i, i);
        return chest.howManyInside();
    }

    public int out(int i) {
        if (!chest.has(i)) return BAD;
        if (chest.gloves[i].where == OUT) return STATE;
        if (chest.deeds.roomLeft() < 1) return FULL;
        chest.act(THROW, i, i);
        return chest.howManyInside();
    }

    public int undo(int n) {
        int done = chest.deeds.size;
        if (n < 0 || n > done) return BAD;
        chest.deeds.size = n;
        chest.replay();
        return done - n;
    }

    public int keep(int k) {
        if (k < 0 || k >= KEPT) return BAD;
        if (chest.size == 0) return STATE;
        kept[k].becomeLike(chest.deeds);
        return kept[k].size;
    }

    public int on(int k) {
        if (k < 0 || k >= KEPT) return BAD;
        if (kept[k].size == MISSING) return finds(NOTHING);
        chest.deeds.becomeLike(kept[k]);
        chest.replay();
        return chest.deeds.size;
    }

    // ---- 3 what the drawer makes (aside)

    public int good(int set) {
        if (!chest.isSet(set)) return BAD;
        makings.weigh(chest);
        lastAsked = makings.most[set];
        return makings.best[set];
    }

    public int pairs(int r) {
        if (!rows.isNumber(r)) return BAD;
        if (chest.size == 0) return STATE;
        makings.weigh(chest);
        makings.partTo(chest, rows, r);
        return makings.best[chest.setOf(INSIDE)];
    }

    public int missed() {
        if (chest.size == 0) return STATE;
        makings.weigh(chest);
        return greatestChange(chest.setOf(INSIDE));
    }

    public int wished() {
        if (chest.size == 0) return STATE;
        makings.weigh(chest);
        return greatestChange(chest.setOf(LOST) | chest.setOf(OUT));
    }

    // ---- 4 days, room

    public int days(int n, int r) {
        if (n < 0 || n > DAYS || !rows.isNumber(r)) return BAD;
        if (chest.size == 0) return STATE;
        return calendar.plan(chest, n, rows, r);
    }

    public int room() {
        if (chest.size == 0) return STATE;
        makings.weigh(chest);
        int set = makings.safestSet(chest);
        lastAsked = makings.afterWorstLoss(chest, set);
        return set;
    }

    public int join(int set, int other) {
        if (!chest.isSet(set) || !chest.isSet(other)) return BAD;
        makings.weigh(chest);
        return makings.best[set | other] - makings.best[set] - makings.best[other] + MORE_JOINED;
    }

    // ---- 5 what one is

    public int sorts(int i, int r) {
        int refused = refusedGuess(i, r);
        if (refused != FINE) return refused;
        return guess.sortsLeft(chest, i, rows, r);
    }

    public int hands(int i, int r) {
        int refused = refusedGuess(i, r);
        if (refused != FINE) return refused;
        return guess.handsLeft(chest, i, rows, r);
    }

    public int kinds(int i, int r) {
        int refused = refusedGuess(i, r);
        if (refused != FINE) return refused;
        return guess.kindsLeft(chest, i, rows, r);
    }

    public int test(int i, int r) {
        int refused = refusedGuess(i, r);
        if (refused != FINE) return refused;
        int left = guess.kindsLeft(chest, i, rows, r);
        if (left == 0 || chest.size < 2) return NONE;
        int other = guess.nextTry(chest, i, left);
        lastAsked = guess.greatestPart(chest, i, left, other);
        return other;
    }

    // ---- 6 by turns

    public int duel(int n) {
        if (n < 0 || n > TURNS) return BAD;
        if (chest.size == 0) return STATE;
        makings.weigh(chest);
        return rivals.leadAfter(makings, chest.setOf(INSIDE), n) + MORE_LED;
    }

    // ---- 7 chances, lots

    public int odds(int v, int p, int q) {
        if (v < 0 || v > MOST_PAIRS || !isChance(p) || !isChance(q)) return BAD;
        if (chest.size == 0) return STATE;
        makings.weigh(chest);
        makings.markSetsOf(v);
        chances.reckon(chest, p, q, makings.enough);
        return 1;
    }

    public int mid(int p, int q) {
        if (!isChance(p) || !isChance(q)) return BAD;
        if (chest.size == 0) return STATE;
        makings.weigh(chest);
        chances.reckon(chest, p, q, makings.best);
        return 1;
    }

    public int lots(int n, int seed) {
        if (n < 1 || n > LOTS || seed < 1 || seed >= LOTS_MODULUS) return BAD;
        if (chest.size == 0) return STATE;
        if (chest.deeds.roomLeft() < n) return FULL;
        long number = seed;
        for (int k = 0; k < n; k++) {
            number = number * LOTS_FACTOR % LOTS_MODULUS;
            chest.actByLot(number / 8);
        }
        return chest.howManyInside();
    }

    // ---- 8 what is told

    public int asked() {
        return lastAsked;
    }

    public long upper() {
        return chances.upper;
    }

    public long lower() {
        return chances.lower;
    }

    public int count(int what) {
        switch (what) {
            case 0: return chest.size;
            case 1: return chest.room;
            case 2: return chest.deeds.size;
            case 3: return chest.setOf(INSIDE);
            case 4: return chest.setOf(LOST);
            case 5: return chest.setOf(OUT);
            case 6: return chest.allWear();
            case 7: return chest.howManyOf(MITTEN);
            case 8: return rows.howManyThere();
            case 9: return texts.howManyThere();
            case 10: return howManyKept();
            default: return BAD;
        }
    }

    public int finding() {
        return lastFound;
    }

    public int findings(int f) {
        if (f < 1 || f > FINDINGS) return BAD;
        return found[f];
    }

    public long digest() {
        long h = 17;
        for (int what = 0; what < COUNTS; what++) h = 31 * h + count(what);
        for (int i = 0; i < chest.size; i++) {
            for (int what = 0; what < WHATS; what++) h = 31 * h + chest.gloves[i].tell(what);
        }
        for (int k = 0; k < KEPT; k++) h = 31 * h + kept[k].size;
        return texts.digestOn(rows.digestOn(h));
    }

    // ---- what several calls share

    private int finds(int f) {
        lastFound = f;
        if (f >= 1 && f <= FINDINGS) found[f]++;
        return FINDING;
    }

    private int tells(int v) {
        lastAsked = v;
        return 1;
    }

    private int refusedRow(int r) {
        if (!rows.isNumber(r)) return BAD;
        return rows.isThere(r) ? FINE : finds(NOTHING);
    }

    private int refusedPlace(int r, int i) {
        int refused = refusedRow(r);
        if (refused != FINE) return refused;
        return rows.holds(r, i) ? FINE : finds(BEYOND);
    }

    private int refusedText(int t) {
        if (!texts.isNumber(t)) return BAD;
        return texts.isThere(t) ? FINE : finds(NOTHING);
    }

    private int refusedGuess(int i, int r) {
        if (!chest.has(i)) return BAD;
        int refused = refusedRow(r);
        if (refused != FINE) return refused;
        if (rows.sizeOf(r) % 2 != 0) return finds(SIZE);
        return guess.isWellTold(chest, i, rows, r) ? FINE : finds(UNLIKE);
    }

    /** The first of a set by which, put in or taken out, the drawer gets more or less GOOD by most. */
    private int greatestChange(int set) {
        int inside = chest.setOf(INSIDE);
        int chosen = NONE;
        int most = 0;
        for (int i = 0; i < chest.size; i++) {
            if ((set & 1 << i) != 0) {
                int apart = Math.abs(makings.best[inside ^ 1 << i] - makings.best[inside]);
                if (chosen == NONE || apart > most) {
                    chosen = i;
                    most = apart;
                }
            }
        }
        if (chosen != NONE) lastAsked = most;
        return chosen;
    }

    private int howManyKept() {
        int there = 0;
        for (int k = 0; k < KEPT; k++) {
            if (kept[k].size != MISSING) there++;
        }
        return there;
    }

    private static boolean isChance(int p) {
        return p >= 0 && p <= CHANCES;
    }

    /** ROWS, or TEXTS: what they are filled with at first and how many places they have at most differs. */
    static final class Rows {
        private final int[][] places;
        private final int[] sizes;
        private final int mostPlaces;
        private final int filler;

        Rows(int number, int mostPlaces, int filler) {
            int howMany = Math.max(0, number);
            this.mostPlaces = Math.max(0, mostPlaces);
            this.filler = filler;
            places = new int[howMany][this.mostPlaces];
            sizes = new int[howMany];
            for (int r = 0; r < howMany; r++) sizes[r] = MISSING;
        }

        boolean isNumber(int r) {
            return r >= 0 && r < sizes.length;
        }

        int sizeOf(int r) {
            return isNumber(r) ? sizes[r] : MISSING;
        }

        boolean isThere(int r) {
            return sizeOf(r) != MISSING;
        }

        boolean holds(int r, int i) {
            return i >= 0 && i < sizeOf(r);
        }

        boolean reaches(int r, int i, int n) {
            int size = sizeOf(r);
            return i >= 0 && i <= size && n >= 0 && n <= size - i;
        }

        void begin(int r, int n) {
            if (!isNumber(r) || n < 0 || n > mostPlaces) return;
            sizes[r] = n;
            for (int i = 0; i < n; i++) places[r][i] = filler;
        }

        void drop(int r) {
            if (isNumber(r)) sizes[r] = MISSING;
        }

        int read(int r, int i) {
            return holds(r, i) ? places[r][i] : 0;
        }

        void write(int r, int i, int v) {
            if (holds(r, i)) places[r][i] = v;
        }

        void move(int r, int i, int to, int j, int n) {
            if (reaches(r, i, n) && reaches(to, j, n)) {
                System.arraycopy(places[r], i, places[to], j, n);
            }
        }

        long total(int r) {
            long sum = 0;
            for (int i = 0; i < sizeOf(r); i++) sum += read(r, i);
            return sum;
        }

        int howManyThere() {
            int there = 0;
            for (int r = 0; r < sizes.length; r++) {
                if (isThere(r)) there++;
            }
            return there;
        }

        long digestOn(long h) {
            for (int r = 0; r < sizes.length; r++) {
                h = 31 * h + sizes[r];
                for (int i = 0; i < sizes[r]; i++) h = 31 * h + read(r, i);
            }
            return h;
        }
    }

    /** What a TEXT tells is held here first, so that a FAULT leaves the DRAWER as it is. */
    static final class Reading {
        private static final int ITEM = 4;

        final int[] kind = new int[GLOVES];
        final int[] sort = new int[GLOVES];
        final int[] hand = new int[GLOVES];
        final int[] warm = new int[GLOVES];
        int size;
        int room;

        int faultOf(Rows texts, int t) {
            size = 0;
            int end = texts.sizeOf(t);
            int place = pastBlanks(texts, t, 0);
            if (place >= end || texts.read(t, place) != 'd') return place;
            room = figure(texts, t, place + 1, 1, GLOVES);
            if (room == MISSING) return place + 1;
            place = pastBlanks(texts, t, place + 2);
            while (size < GLOVES && place < end) {
                int wrong = faultOfGlove(texts, t, place);
                if (wrong != NONE) return wrong;
                place = pastBlanks(texts, t, place + ITEM);
                size++;
            }
            return place < end || size == 0 ? place : NONE;
        }

        private int faultOfGlove(Rows texts, int t, int place) {
            if (size < 0 || size >= GLOVES) return place;
            kind[size] = kindOf(texts.read(t, place));
            if (kind[size] == MISSING) return place;
            sort[size] = figure(texts, t, place + 1, 0, SORTS - 1);
            if (sort[size] == MISSING) return place + 1;
            hand[size] = figure(texts, t, place + 2, 0, HANDS - 1);
            if (hand[size] == MISSING) return place + 2;
            warm[size] = figure(texts, t, place + 3, 0, MOST_WARM);
            return warm[size] == MISSING ? place + 3 : NONE;
        }

        private static int pastBlanks(Rows texts, int t, int place) {
            int end = texts.sizeOf(t);
            int next = place;
            while (next < end && texts.read(t, next) == BLANK) next++;
            return next;
        }

        /** MISSING, if there is no such figure at this place. */
        private static int figure(Rows texts, int t, int place, int least, int most) {
            if (!texts.holds(t, place)) return MISSING;
            int value = texts.read(t, place) - '0';
            return value >= least && value <= most ? value : MISSING;
        }

        private static int kindOf(int letter) {
            switch (letter) {
                case 'g': return GLOVE;
                case 'm': return MITTEN;
                case 'e': return EITHER;
                case 's': return STRING;
                case 'l': return LINED;
                case 't': return STRETCH;
                default: return MISSING;
            }
        }
    }

    static final class Glove {
        int kind;
        int sort;
        int hand;
        int warm;
        int wear;
        int where;

        void becomeLike(Glove other) {
            kind = other.kind;
            sort = other.sort;
            hand = other.hand;
            warm = other.warm;
            wear = other.wear;
            where = other.where;
        }

        boolean isOf(int wanted) {
            return wanted == kind || wanted == GLOVE
                || (wanted == MITTEN && kind == LINED) || (wanted == EITHER && kind == STRETCH);
        }

        int bareWarmth() {
            return Math.max(0, warm - wear / 3);
        }

        int warmth() {
            int bare = bareWarmth();
            switch (kind) {
                case MITTEN: return bare + 2;
                case EITHER:
                case STRETCH: return Math.max(0, bare - 1);
                case LINED: return wear < LINING_LASTS ? bare + 3 : bare;
                default: return bare;
            }
        }

        private boolean goesOn(int side) {
            return hand == side || isOf(EITHER);
        }

        boolean makesPairWith(Glove other) {
            return (goesOn(LEFT) && other.goesOn(RIGHT)) || (goesOn(RIGHT) && other.goesOn(LEFT));
        }

        /** NONE, if they make no PAIR. */
        int goodWith(Glove other) {
            if (!makesPairWith(other)) return NONE;
            int together = warmth() + other.warmth();
            if (kind == STRETCH || other.kind == STRETCH) return together;
            return Math.max(0, together - 2 * Math.abs(sort - other.sort));
        }

        int tell(int what) {
            switch (what) {
                case 0: return kind;
                case 1: return sort;
                case 2: return hand;
                case 3: return warm;
                case 4: return wear;
                case 5: return warmth();
                default: return where;
            }
        }
    }

    static final class Deeds {
        final int[] codes = new int[DEEDS];
        int size;

        int roomLeft() {
            return DEEDS - size;
        }

        void add(int deed, int i, int j) {
            if (size < 0 || size >= DEEDS) return;
            codes[size] = 100 * deed + 10 * i + j;
            size++;
        }

        void becomeLike(Deeds other) {
            size = other.size;
            for (int n = 0; n < DEEDS; n++) codes[n] = other.codes[n];
        }
    }

    static final class Drawer {
        final Glove[] gloves = new Glove[GLOVES];
        final Deeds deeds = new Deeds();
        int size;
        int room;

        Drawer() {
            for (int i = 0; i < GLOVES; i++) gloves[i] = new Glove();
        }

        void fill(Reading reading) {
            size = reading.size;
            room = reading.room;
            for (int i = 0; i < size; i++) {
                gloves[i].kind = reading.kind[i];
                gloves[i].sort = reading.sort[i];
                gloves[i].hand = reading.hand[i];
                gloves[i].warm = reading.warm[i];
            }
            deeds.size = 0;
            replay();
        }

        boolean has(int i) {
            return i >= 0 && i < size;
        }

        boolean isSet(int set) {
            return set >= 0 && set < 1 << size;
        }

        boolean isInside(int i) {
            return has(i) && gloves[i].where == INSIDE;
        }

        boolean canBeLost(int i) {
            return isInside(i) && gloves[i].kind != STRING;
        }

        int setOf(int where) {
            int set = 0;
            for (int i = 0; i < size; i++) {
                if (gloves[i].where == where) set |= 1 << i;
            }
            return set;
        }

        int howManyInside() {
            return Integer.bitCount(setOf(INSIDE));
        }

        boolean hasRoom() {
            return howManyInside() < room;
        }

        int allWear() {
            int sum = 0;
            for (int i = 0; i < size; i++) sum += gloves[i].wear;
            return sum;
        }

        int howManyOf(int kind) {
            int such = 0;
            for (int i = 0; i < size; i++) {
                if (gloves[i].isOf(kind)) such++;
            }
            return such;
        }

        int matesOf(int i) {
            int mates = 0;
            for (int j = 0; j < size; j++) {
                if (j != i && isInside(j) && gloves[j].makesPairWith(gloves[i])) mates++;
            }
            return mates;
        }

        int sameSortAs(int i) {
            int same = 0;
            for (int j = 0; j < size; j++) {
                if (j != i && isInside(j) && gloves[j].sort == gloves[i].sort) same++;
            }
            return same;
        }

        void act(int deed, int i, int j) {
            deeds.add(deed, i, j);
            carryOut(deed, i, j);
        }

        void actByLot(long number) {
            if (size <= 0) return;
            int i = (int) (number % size);
            if (canBeLost(i)) {
                act(LOSS, i, i);
            } else if (gloves[i].where == LOST && hasRoom()) {
                act(RETURN, i, i);
            } else {
                wearFirstPair();
            }
        }

        private void wearFirstPair() {
            for (int i = 0; i < size; i++) {
                for (int j = i + 1; j < size; j++) {
                    if (isInside(i) && isInside(j) && gloves[i].makesPairWith(gloves[j])) {
                        act(WORN, i, j);
                        return;
                    }
                }
            }
            act(IDLE, 0, 0);
        }

        /** The DEEDS alone tell where the GLOVES are and their WEAR: so they need not be kept besides. */
        void replay() {
            for (int i = 0; i < size; i++) {
                gloves[i].wear = 0;
                gloves[i].where = INSIDE;
            }
            for (int n = 0; n < deeds.size; n++) {
                int code = deeds.codes[n];
                carryOut(code / 100, code / 10 % 10, code % 10);
            }
        }

        private void carryOut(int deed, int i, int j) {
            if (!has(i) || !has(j)) return;
            switch (deed) {
                case WORN:
                    gloves[i].wear++;
                    gloves[j].wear++;
                    break;
                case LOSS:
                    gloves[i].where = LOST;
                    break;
                case RETURN:
                    gloves[i].where = INSIDE;
                    break;
                case THROW:
                    gloves[i].where = OUT;
                    break;
                default:
                    break;
            }
        }
    }

    /** How GOOD each set of GLOVES is (best), how many PAIRS it makes at most (most). */
    static final class Makings {
        private final int[] worth = new int[GLOVES * GLOVES];
        final int[] best = new int[SETS];
        final int[] most = new int[SETS];
        final int[] enough = new int[SETS];

        void weigh(Drawer chest) {
            for (int i = 0; i < chest.size; i++) {
                for (int j = 0; j < i; j++) {
                    worth[GLOVES * i + j] = chest.gloves[i].goodWith(chest.gloves[j]);
                }
            }
            best[0] = 0;
            most[0] = 0;
            for (int i = 0; i < chest.size; i++) {
                for (int others = 0; others < 1 << i; others++) weighWith(i, others);
            }
        }

        /** All sets without i and those above it are weighed already. */
        private void weighWith(int i, int others) {
            int set = others | 1 << i;
            best[set] = best[others];
            most[set] = most[others];
            for (int j = 0; j < i; j++) {
                int pairWorth = worth[GLOVES * i + j];
                if ((others & 1 << j) != 0 && pairWorth != NONE) {
                    int rest = others ^ 1 << j;
                    best[set] = Math.max(best[set], best[rest] + pairWorth);
                    most[set] = Math.max(most[set], most[rest] + 1);
                }
            }
        }

        void partTo(Drawer chest, Rows rows, int r) {
            rows.begin(r, chest.size);
            for (int i = 0; i < chest.size; i++) rows.write(r, i, NONE);
            int rest = chest.setOf(INSIDE);
            for (int i = 0; i < chest.size; i++) {
                if ((rest & 1 << i) != 0) {
                    int mate = firstMate(chest, i, rest);
                    rest ^= 1 << i;
                    if (mate != NONE) {
                        rest ^= 1 << mate;
                        rows.write(r, i, mate);
                        rows.write(r, mate, i);
                    }
                }
            }
        }

        private int firstMate(Drawer chest, int i, int rest) {
            int others = rest ^ 1 << i;
            if (best[others] == best[rest]) return NONE;
            for (int j = i + 1; j < chest.size; j++) {
                int pairWorth = worth[GLOVES * j + i];
                if ((others & 1 << j) != 0 && pairWorth != NONE
                    && pairWorth + best[others ^ 1 << j] == best[rest]) return j;
            }
            return NONE;
        }

        int safestSet(Drawer chest) {
            int inside = chest.setOf(INSIDE);
            int safest = 0;
            for (int set = 1; set < 1 << chest.size; set++) {
                boolean lies = (set & ~inside) == 0 && Integer.bitCount(set) <= chest.room;
                if (lies && isSafer(chest, set, safest)) safest = set;
            }
            return safest;
        }

        private boolean isSafer(Drawer chest, int set, int other) {
            int left = afterWorstLoss(chest, set);
            int otherLeft = afterWorstLoss(chest, other);
            if (left != otherLeft) return left > otherLeft;
            return Integer.bitCount(set) < Integer.bitCount(other);
        }

        int afterWorstLoss(Drawer chest, int set) {
            int least = best[set];
            for (int i = 0; i < chest.size; i++) {
                // without a GLOVE a set is never more GOOD: so the whole set bounds the least well
                if ((set & 1 << i) != 0 && chest.gloves[i].kind != STRING) {
                    least = Math.min(least, best[set ^ 1 << i]);
                }
            }
            return least;
        }

        void markSetsOf(int pairs) {
            for (int set = 0; set < SETS; set++) enough[set] = most[set] >= pairs ? 1 : 0;
        }
    }

    /** Wears copies of the GLOVES, so that the drawer's own stay as they are. */
    static final class Calendar {
        private final Drawer worn = new Drawer();
        private final int[] codes = new int[GLOVES * GLOVES];
        private final int[] way = new int[DAYS];
        private final int[] bestWay = new int[DAYS];
        private int size;
        private int dearest;
        private int best;

        int plan(Drawer chest, int n, Rows rows, int r) {
            gather(chest);
            if (n < 0 || n > DAYS || (n > 0 && size == 0)) return NONE;
            best = NONE;
            search(this, 0, n, 0);
            rows.begin(r, n);
            for (int day = 0; day < n; day++) rows.write(r, day, bestWay[day]);
            return best;
        }

        private void gather(Drawer chest) {
            worn.size = chest.size;
            for (int i = 0; i < chest.size; i++) worn.gloves[i].becomeLike(chest.gloves[i]);
            size = 0;
            dearest = 0;
            for (int i = 0; i < worn.size; i++) {
                for (int j = i + 1; j < worn.size; j++) {
                    int worth = worn.gloves[i].goodWith(worn.gloves[j]);
                    if (worn.isInside(i) && worn.isInside(j) && worth != NONE) {
                        codes[size] = 10 * i + j;
                        size++;
                        dearest = Math.max(dearest, worth);
                    }
                }
            }
        }

        private static void search(Calendar all, int day, int n, int sum) {
            // WEAR never makes a PAIR more GOOD: no day to come is above the dearest PAIR of now
            if (sum + (n - day) * all.dearest <= all.best) return;
            if (day >= n || day >= DAYS) {
                all.best = sum;
                for (int d = 0; d < DAYS; d++) all.bestWay[d] = all.way[d];
                return;
            }
            for (int c = 0; c < all.size; c++) {
                Glove one = all.worn.gloves[all.codes[c] / 10];
                Glove other = all.worn.gloves[all.codes[c] % 10];
                int worth = one.goodWith(other);
                all.way[day] = all.codes[c];
                one.wear++;
                other.wear++;
                search(all, day + 1, n, sum + worth);
                one.wear--;
                other.wear--;
            }
        }
    }

    /** Tries a GLOVE as another one (maybe) that it could be. */
    static final class Guess {
        private final Glove maybe = new Glove();
        private final int[] outcome = new int[KINDS];

        boolean isWellTold(Drawer chest, int i, Rows rows, int r) {
            for (int place = 0; place + 1 < rows.sizeOf(r); place += 2) {
                int other = rows.read(r, place);
                int worth = rows.read(r, place + 1);
                if (!chest.has(other) || other == i || (worth < 0 && worth != NONE)) return false;
            }
            return true;
        }

        private boolean agrees(Drawer chest, Rows rows, int r) {
            for (int place = 0; place + 1 < rows.sizeOf(r); place += 2) {
                int other = rows.read(r, place);
                if (!chest.has(other)) return false;
                if (maybe.goodWith(chest.gloves[other]) != rows.read(r, place + 1)) return false;
            }
            return true;
        }

        int sortsLeft(Drawer chest, int i, Rows rows, int r) {
            int left = 0;
            maybe.becomeLike(chest.gloves[i]);
            for (int sort = 0; sort < SORTS; sort++) {
                maybe.sort = sort;
                if (agrees(chest, rows, r)) left |= 1 << sort;
            }
            return left;
        }

        int handsLeft(Drawer chest, int i, Rows rows, int r) {
            int left = 0;
            maybe.becomeLike(chest.gloves[i]);
            for (int hand = 0; hand < HANDS; hand++) {
                maybe.hand = hand;
                if (agrees(chest, rows, r)) left |= 1 << hand;
            }
            return left;
        }

        int kindsLeft(Drawer chest, int i, Rows rows, int r) {
            int left = 0;
            maybe.becomeLike(chest.gloves[i]);
            for (int kind = 0; kind < KINDS; kind++) {
                maybe.kind = kind;
                if (agrees(chest, rows, r)) left |= 1 << kind;
            }
            return left;
        }

        int nextTry(Drawer chest, int i, int kindsLeft) {
            int chosen = NONE;
            int least = KINDS + 1;
            for (int other = 0; other < chest.size; other++) {
                if (other != i) {
                    int part = greatestPart(chest, i, kindsLeft, other);
                    if (part < least) {
                        chosen = other;
                        least = part;
                    }
                }
            }
            return chosen;
        }

        int greatestPart(Drawer chest, int i, int kindsLeft, int other) {
            if (!chest.has(i) || !chest.has(other)) return 0;
            maybe.becomeLike(chest.gloves[i]);
            int greatest = 0;
            for (int kind = 0; kind < KINDS; kind++) {
                maybe.kind = kind;
                outcome[kind] = maybe.goodWith(chest.gloves[other]);
            }
            for (int kind = 0; kind < KINDS; kind++) {
                if ((kindsLeft & 1 << kind) != 0) {
                    greatest = Math.max(greatest, howManyLike(kindsLeft, outcome[kind]));
                }
            }
            return greatest;
        }

        private int howManyLike(int kindsLeft, int worth) {
            int like = 0;
            for (int kind = 0; kind < KINDS; kind++) {
                if ((kindsLeft & 1 << kind) != 0 && outcome[kind] == worth) like++;
            }
            return like;
        }

        int gainOfStretch(Drawer chest, int i) {
            int gain = 0;
            maybe.becomeLike(chest.gloves[i]);
            maybe.kind = EITHER;
            for (int j = 0; j < chest.size; j++) {
                if (j != i && chest.isInside(j)) {
                    gain += chest.gloves[i].goodWith(chest.gloves[j]) - maybe.goodWith(chest.gloves[j]);
                }
            }
            return gain;
        }
    }

    /** Two who take GLOVES in turn; what one who is to take can lead by depends on what both have alone. */
    static final class Rivals {
        private static final int WAYS = 6561, UNKNOWN = 1000000;

        private final int[] known = new int[WAYS];
        private final int[] inThrees = new int[SETS];

        Rivals() {
            for (int set = 1; set < SETS; set++) inThrees[set] = 3 * inThrees[set / 2] + set % 2;
        }

        int leadAfter(Makings makings, int inside, int turns) {
            for (int way = 0; way < WAYS; way++) known[way] = UNKNOWN;
            return lead(this, makings, 0, 0, inside, turns);
        }

        private static int lead(Rivals all, Makings makings, int mine, int others, int free, int turns) {
            if (turns <= 0 || free == 0) return makings.best[mine] - makings.best[others];
            int way = all.inThrees[mine] + 2 * all.inThrees[others];
            if (all.known[way] != UNKNOWN) return all.known[way];
            int most = -UNKNOWN;
            for (int i = 0; i < GLOVES; i++) {
                int one = 1 << i;
                if ((free & one) != 0) {
                    most = Math.max(most, -lead(all, makings, others, mine | one, free ^ one, turns - 1));
                }
            }
            all.known[way] = most;
            return most;
        }
    }

    static final class Chances {
        private static final int DIVISIONS = 200;

        private final int[] loss = new int[GLOVES];
        long upper = 0;
        long lower = 1;

        void reckon(Drawer chest, int p, int q, int[] values) {
            int inside = chest.setOf(INSIDE);
            long all = 1;
            for (int i = 0; i < chest.size; i++) {
                loss[i] = lossOf(chest.gloves[i], p, q);
                if ((inside & 1 << i) != 0) all *= CHANCES;
            }
            long sum = 0;
            for (int left = 0; left < 1 << chest.size && left < values.length; left++) {
                if ((left & ~inside) == 0) sum += values[left] * waysTo(chest, inside, left);
            }
            long shared = commonDivisor(all, sum);
            upper = shared > 0 ? sum / shared : sum;
            lower = shared > 0 ? all / shared : all;
        }

        private static int lossOf(Glove glove, int p, int q) {
            if (glove.kind == STRING) return 0;
            if (glove.isOf(EITHER)) return Math.max(p, q);
            return glove.hand == LEFT ? p : q;
        }

        private long waysTo(Drawer chest, int inside, int left) {
            long ways = 1;
            for (int i = 0; i < chest.size; i++) {
                if ((left & 1 << i) != 0) {
                    ways *= CHANCES - loss[i];
                } else if ((inside & 1 << i) != 0) {
                    ways *= loss[i];
                }
            }
            return ways;
        }

        private static long commonDivisor(long a, long b) {
            for (int k = 0; k < DIVISIONS && b != 0; k++) {
                long rest = a % b;
                a = b;
                b = rest;
            }
            return a;
        }
    }
}
