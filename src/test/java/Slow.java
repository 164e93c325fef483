import java.math.BigInteger;
import java.util.ArrayList;
import java.util.List;
import java.util.regex.Matcher;
import java.util.regex.Pattern;

/**
 * The document once more, by other means: all ways are gone through, a state of its own is held after
 * each DEED, a FAULT is told by a pattern. RandomRunsTest compares the class with it.
 */
final class Slow {
    static final int BAD = -1, FULL = -2, FINDING = -3, STATE = -4, SPENT = -6, NONE = -9;

    private static final String LETTERS = "gmeslt";
    private static final Pattern DRAWER = Pattern.compile(" *d[1-8](?: *[gmeslt][0-9][01][0-9]){1,8} *");

    /** A GLOVE as it could be; kind is its letter. */
    record Item(char kind, int sort, int hand, int warm) {
        int warmth(int wear) {
            int plain = warm - wear / 3 < 0 ? 0 : warm - wear / 3;
            return switch (kind) {
                case 'm' -> plain + 2;
                case 'l' -> wear <= 5 ? plain + 3 : plain;
                case 'e', 't' -> plain == 0 ? 0 : plain - 1;
                default -> plain;
            };
        }

        boolean anyHand() {
            return kind == 'e' || kind == 't';
        }
    }

    /** Where the GLOVES are and their WEAR after some DEEDS. */
    record Place(int[] where, int[] wear) {
        Place next() {
            return new Place(where.clone(), wear.clone());
        }
    }

    private final int[][] rows = new int[6][];
    private final byte[][] texts = new byte[4][];
    private List<Item> items = new ArrayList<>();
    private int room;
    private List<Place> past = new ArrayList<>(List.of(new Place(new int[0], new int[0])));
    private final List<List<Place>> kept = new ArrayList<>();
    private int asked;
    private long upper;
    private long lower = 1;
    private int finding;
    private final int[] findings = new int[6];

    Slow() {
        for (int k = 0; k < 3; k++) kept.add(null);
    }

    // ---- small parts

    private int found(int f) {
        finding = f;
        findings[f]++;
        return FINDING;
    }

    private int tell(int v) {
        asked = v;
        return 1;
    }

    private Place now() {
        return past.get(past.size() - 1);
    }

    private boolean isGlove(int i) {
        return 0 <= i && i < items.size();
    }

    private static boolean within(int v, int least, int most) {
        return least <= v && v <= most;
    }

    private boolean in(int i) {
        return now().where[i] == 0;
    }

    private List<Integer> inside() {
        List<Integer> list = new ArrayList<>();
        for (int i = 0; i < items.size(); i++) if (in(i)) list.add(i);
        return list;
    }

    private static int bits(List<Integer> list) {
        int set = 0;
        for (int i : list) set |= 1 << i;
        return set;
    }

    private static List<Integer> listOf(int set) {
        List<Integer> list = new ArrayList<>();
        for (int i = 0; i < 31; i++) if ((set >> i & 1) == 1) list.add(i);
        return list;
    }

    private static int worth(Item a, int wearA, Item b, int wearB) {
        if (!a.anyHand() && !b.anyHand() && a.hand() == b.hand()) return NONE;
        int apart = a.kind() == 't' || b.kind() == 't' ? 0 : Math.abs(a.sort() - b.sort());
        return Math.max(0, a.warmth(wearA) + b.warmth(wearB) - apart - apart);
    }

    private int worth(int i, int j) {
        return worth(items.get(i), now().wear[i], items.get(j), now().wear[j]);
    }

    private int worthAs(Item item, int i, int j) {
        return worth(item, now().wear[i], items.get(j), now().wear[j]);
    }

    /** All ways to part some GLOVES to PAIRS: with whom each of all GLOVES is. */
    private List<int[]> ways(List<Integer> set) {
        List<int[]> all = new ArrayList<>();
        int[] way = new int[items.size()];
        java.util.Arrays.fill(way, NONE);
        grow(set, 0, way, all);
        return all;
    }

    private void grow(List<Integer> set, int from, int[] way, List<int[]> all) {
        if (from == set.size()) {
            all.add(way.clone());
            return;
        }
        int i = set.get(from);
        grow(set, from + 1, way, all);
        if (way[i] != NONE) return;
        for (int next = from + 1; next < set.size(); next++) {
            int j = set.get(next);
            if (way[j] == NONE && worth(i, j) != NONE) {
                way[i] = j;
                way[j] = i;
                grow(set, from + 1, way, all);
                way[i] = NONE;
                way[j] = NONE;
            }
        }
    }

    private int sum(int[] way) {
        int sum = 0;
        for (int i = 0; i < way.length; i++) if (way[i] > i) sum += worth(i, way[i]);
        return sum;
    }

    private final int[] bests = new int[256];
    private final int[] mosts = new int[256];
    private Place weighed;
    private List<Item> weighedItems;

    private void weigh() {
        if (weighed == now() && weighedItems == items) return;
        for (int set = 0; set < 1 << items.size(); set++) {
            bests[set] = 0;
            mosts[set] = 0;
            for (int[] way : ways(listOf(set))) {
                int pairs = 0;
                for (int i = 0; i < way.length; i++) if (way[i] > i) pairs++;
                bests[set] = Math.max(bests[set], sum(way));
                mosts[set] = Math.max(mosts[set], pairs);
            }
        }
        weighed = now();
        weighedItems = items;
    }

    private int best(int set) {
        weigh();
        return bests[set];
    }

    private int most(int set) {
        weigh();
        return mosts[set];
    }

    // ---- 1

    int row(int r, int n) {
        if (!within(r, 0, 5) || n > 40) return BAD;
        if (n < 0) return found(5);
        rows[r] = new int[n];
        return n;
    }

    int lay(int r, int i, int v) {
        if (!within(r, 0, 5)) return BAD;
        if (rows[r] == null) return found(1);
        if (!within(i, 0, rows[r].length - 1)) return found(2);
        int was = rows[r][i];
        rows[r][i] = v;
        return tell(was);
    }

    int at(int r, int i) {
        if (!within(r, 0, 5)) return BAD;
        if (rows[r] == null) return found(1);
        if (!within(i, 0, rows[r].length - 1)) return found(2);
        return tell(rows[r][i]);
    }

    int tear(int r) {
        if (!within(r, 0, 5)) return BAD;
        if (rows[r] == null) return found(1);
        rows[r] = null;
        return 1;
    }

    int copy(int r, int i, int to, int j, int n) {
        if (!within(r, 0, 5) || !within(to, 0, 5)) return BAD;
        if (n < 0) return found(5);
        if (rows[r] == null || rows[to] == null) return found(1);
        if (i < 0 || j < 0 || (long) i + n > rows[r].length || (long) j + n > rows[to].length) return found(2);
        int[] ahead = rows[r].clone();
        for (int k = 0; k < n; k++) rows[to][j + k] = ahead[i + k];
        return 1;
    }

    int mean(int r) {
        if (!within(r, 0, 5)) return BAD;
        if (rows[r] == null) return found(1);
        if (rows[r].length == 0) return found(4);
        BigInteger sum = BigInteger.ZERO;
        for (int v : rows[r]) sum = sum.add(BigInteger.valueOf(v));
        return tell(sum.divide(BigInteger.valueOf(rows[r].length)).intValueExact());
    }

    int text(int t, int n) {
        if (!within(t, 0, 3) || n > 60) return BAD;
        if (n < 0) return found(5);
        texts[t] = new byte[n];
        java.util.Arrays.fill(texts[t], (byte) ' ');
        return n;
    }

    int put(int t, int i, int v) {
        if (!within(t, 0, 3)) return BAD;
        if (texts[t] == null) return found(1);
        if (!within(i, 0, texts[t].length - 1)) return found(2);
        int was = texts[t][i];
        int low = v & 255;
        texts[t][i] = (byte) (low > 127 ? low - 256 : low);
        return 1000 + was;
    }

    private String signs(int t) {
        StringBuilder all = new StringBuilder();
        for (byte b : texts[t]) all.append((char) (b & 255));
        return all.toString();
    }

    int fault(int t) {
        if (!within(t, 0, 3)) return BAD;
        if (texts[t] == null) return found(1);
        String all = signs(t);
        for (int size = 1; size <= all.length(); size++) {
            Matcher m = DRAWER.matcher(all.substring(0, size));
            if (!m.matches() && !m.hitEnd()) return size - 1;
        }
        return DRAWER.matcher(all).matches() ? NONE : all.length();
    }

    int drawer(int t) {
        if (!within(t, 0, 3)) return BAD;
        if (texts[t] == null) return found(1);
        if (!DRAWER.matcher(signs(t)).matches()) return STATE;
        String packed = signs(t).replace(" ", "");
        room = packed.charAt(1) - '0';
        items = new ArrayList<>();
        for (int p = 2; p < packed.length(); p += 4) {
            items.add(new Item(packed.charAt(p), packed.charAt(p + 1) - '0', packed.charAt(p + 2) - '0',
                packed.charAt(p + 3) - '0'));
        }
        past = new ArrayList<>();
        past.add(new Place(new int[items.size()], new int[items.size()]));
        for (int k = 0; k < 3; k++) kept.set(k, null);
        return items.size();
    }

    private int of(int i, int what) {
        Item item = items.get(i);
        int[] all = {LETTERS.indexOf(item.kind()), item.sort(), item.hand(), item.warm(), now().wear[i],
            item.warmth(now().wear[i]), now().where[i]};
        return all[what];
    }

    int glove(int i, int what) {
        if (!isGlove(i) || !within(what, 0, 6)) return BAD;
        return tell(of(i, what));
    }

    int mark(int i, int kind) {
        if (!isGlove(i) || !within(kind, 1, 5)) return BAD;
        Item me = items.get(i);
        String fits = new String[] {"", "ml", "et", "s", "l", "t"}[kind];
        if (fits.indexOf(me.kind()) < 0) return found(3);
        int wear = now().wear[i];
        if (kind == 1) return me.warmth(wear) - new Item('g', me.sort(), me.hand(), me.warm()).warmth(wear);
        if (kind == 4) return wear > 6 ? 0 : 6 - wear;
        int sum = 0;
        for (int j : inside()) {
            if (j == i) continue;
            if (kind == 2 && worth(i, j) != NONE) sum++;
            if (kind == 3 && items.get(j).sort() == me.sort()) sum++;
            if (kind == 5) sum += worth(i, j) - worthAs(new Item('e', me.sort(), me.hand(), me.warm()), i, j);
        }
        return sum;
    }

    int pair(int i, int j) {
        if (!isGlove(i) || !isGlove(j) || i == j) return BAD;
        return worth(i, j);
    }

    // ---- 2

    private int deeds() {
        return past.size() - 1;
    }

    int wear(int i, int j) {
        if (!isGlove(i) || !isGlove(j) || i == j) return BAD;
        int worth = worth(i, j);
        if (!in(i) || !in(j) || worth == NONE) return STATE;
        if (deeds() == 40) return FULL;
        Place next = now().next();
        next.wear[i]++;
        next.wear[j]++;
        past.add(next);
        return worth;
    }

    private int moved(int i, int where) {
        if (deeds() == 40) return FULL;
        Place next = now().next();
        next.where[i] = where;
        past.add(next);
        return inside().size();
    }

    int lose(int i) {
        if (!isGlove(i)) return BAD;
        if (!in(i) || items.get(i).kind() == 's') return STATE;
        return moved(i, 1);
    }

    int back(int i) {
        if (!isGlove(i)) return BAD;
        if (now().where[i] != 1) return STATE;
        if (inside().size() >= room) return SPENT;
        return moved(i, 0);
    }

    int out(int i) {
        if (!isGlove(i)) return BAD;
        if (now().where[i] == 2) return STATE;
        return moved(i, 2);
    }

    int undo(int n) {
        if (!within(n, 0, deeds())) return BAD;
        int undone = deeds() - n;
        past = new ArrayList<>(past.subList(0, n + 1));
        return undone;
    }

    int keep(int k) {
        if (!within(k, 0, 2)) return BAD;
        if (items.isEmpty()) return STATE;
        kept.set(k, new ArrayList<>(past));
        return deeds();
    }

    int on(int k) {
        if (!within(k, 0, 2)) return BAD;
        if (kept.get(k) == null) return found(1);
        past = new ArrayList<>(kept.get(k));
        return deeds();
    }

    // ---- 3

    private boolean isSet(int set) {
        return set >= 0 && (set >> items.size()) == 0;
    }

    int good(int set) {
        if (!isSet(set)) return BAD;
        asked = most(set);
        return best(set);
    }

    int pairs(int r) {
        if (!within(r, 0, 5)) return BAD;
        if (items.isEmpty()) return STATE;
        int best = best(bits(inside()));
        int[] first = null;
        for (int[] way : ways(inside())) {
            if (sum(way) == best && (first == null || java.util.Arrays.compare(way, first) < 0)) first = way;
        }
        rows[r] = first;
        return best;
    }

    int missed() {
        if (items.isEmpty()) return STATE;
        int set = bits(inside());
        int chosen = NONE;
        int most = -1;
        for (int i : inside()) {
            int less = best(set) - best(set - (1 << i));
            if (less > most) {
                most = less;
                chosen = i;
            }
        }
        if (chosen != NONE) asked = most;
        return chosen;
    }

    int wished() {
        if (items.isEmpty()) return STATE;
        int set = bits(inside());
        int chosen = NONE;
        int most = -1;
        for (int i = 0; i < items.size(); i++) {
            if (in(i)) continue;
            int more = best(set + (1 << i)) - best(set);
            if (more > most) {
                most = more;
                chosen = i;
            }
        }
        if (chosen != NONE) asked = most;
        return chosen;
    }

    // ---- 4

    private int daysBest;
    private int[] daysWay;

    int days(int n, int r) {
        if (!within(n, 0, 3) || !within(r, 0, 5)) return BAD;
        if (items.isEmpty()) return STATE;
        daysBest = NONE;
        daysWay = null;
        goThroughDays(n, new int[n], 0, now().wear.clone(), 0);
        if (daysWay == null) return NONE;
        rows[r] = daysWay;
        return daysBest;
    }

    private void goThroughDays(int n, int[] way, int day, int[] wear, int sum) {
        if (day == n) {
            boolean first = daysWay == null || sum > daysBest
                || (sum == daysBest && java.util.Arrays.compare(way, daysWay) < 0);
            if (first) {
                daysBest = sum;
                daysWay = way.clone();
            }
            return;
        }
        for (int j : inside()) {
            for (int i : inside()) {
                if (i >= j) continue;
                int worth = worth(items.get(i), wear[i], items.get(j), wear[j]);
                if (worth == NONE) continue;
                int[] later = wear.clone();
                later[i]++;
                later[j]++;
                way[day] = 10 * i + j;
                goThroughDays(n, way, day + 1, later, sum + worth);
            }
        }
    }

    private int afterLoss(int set) {
        int least = Integer.MAX_VALUE;
        for (int i : listOf(set)) {
            if (items.get(i).kind() != 's') least = Math.min(least, best(set - (1 << i)));
        }
        return least == Integer.MAX_VALUE ? best(set) : least;
    }

    int room() {
        if (items.isEmpty()) return STATE;
        List<Integer> sets = new ArrayList<>();
        int inside = bits(inside());
        for (int set = 0; set < 256; set++) {
            if ((set | inside) == inside && listOf(set).size() <= room) sets.add(set);
        }
        sets.sort((a, b) -> {
            if (afterLoss(a) != afterLoss(b)) return afterLoss(b) - afterLoss(a);
            if (listOf(a).size() != listOf(b).size()) return listOf(a).size() - listOf(b).size();
            return a - b;
        });
        asked = afterLoss(sets.get(0));
        return sets.get(0);
    }

    int join(int set, int other) {
        if (!isSet(set) || !isSet(other)) return BAD;
        return 200 + best(set | other) - (best(set) + best(other));
    }

    // ---- 5

    private int wrongGuess(int i, int r) {
        if (!isGlove(i) || !within(r, 0, 5)) return BAD;
        if (rows[r] == null) return found(1);
        if (rows[r].length % 2 == 1) return found(5);
        for (int p = 0; p < rows[r].length; p += 2) {
            if (!isGlove(rows[r][p]) || rows[r][p] == i) return found(3);
            if (rows[r][p + 1] < 0 && rows[r][p + 1] != NONE) return found(3);
        }
        return 0;
    }

    private boolean fits(Item item, int i, int r) {
        for (int p = 0; p < rows[r].length; p += 2) {
            if (worthAs(item, i, rows[r][p]) != rows[r][p + 1]) return false;
        }
        return true;
    }

    int sorts(int i, int r) {
        int wrong = wrongGuess(i, r);
        if (wrong != 0) return wrong;
        Item me = items.get(i);
        int set = 0;
        for (int s = 0; s <= 9; s++) if (fits(new Item(me.kind(), s, me.hand(), me.warm()), i, r)) set += 1 << s;
        return set;
    }

    int hands(int i, int r) {
        int wrong = wrongGuess(i, r);
        if (wrong != 0) return wrong;
        Item me = items.get(i);
        int set = 0;
        for (int h = 0; h <= 1; h++) if (fits(new Item(me.kind(), me.sort(), h, me.warm()), i, r)) set += 1 << h;
        return set;
    }

    private Item asKind(int i, int kind) {
        Item me = items.get(i);
        return new Item(LETTERS.charAt(kind), me.sort(), me.hand(), me.warm());
    }

    int kinds(int i, int r) {
        int wrong = wrongGuess(i, r);
        if (wrong != 0) return wrong;
        int set = 0;
        for (int k = 0; k <= 5; k++) if (fits(asKind(i, k), i, r)) set += 1 << k;
        return set;
    }

    int test(int i, int r) {
        int wrong = wrongGuess(i, r);
        if (wrong != 0) return wrong;
        List<Integer> left = listOf(kinds(i, r));
        if (left.isEmpty() || items.size() == 1) return NONE;
        int chosen = NONE;
        int least = 99;
        for (int o = 0; o < items.size(); o++) {
            if (o == i) continue;
            java.util.Map<Integer, Integer> parts = new java.util.TreeMap<>();
            for (int k : left) parts.merge(worthAs(asKind(i, k), i, o), 1, Integer::sum);
            int greatest = java.util.Collections.max(parts.values());
            if (greatest < least) {
                least = greatest;
                chosen = o;
            }
        }
        asked = least;
        return chosen;
    }

    // ---- 6

    int duel(int n) {
        if (!within(n, 0, 6)) return BAD;
        if (items.isEmpty()) return STATE;
        return 100 + play(bits(inside()), 0, 0, true, n);
    }

    private int play(int free, int first, int second, boolean firstTakes, int turns) {
        if (turns == 0 || free == 0) return best(first) - best(second);
        int value = 0;
        boolean any = false;
        for (int i : listOf(free)) {
            int bit = 1 << i;
            int then = firstTakes ? play(free - bit, first + bit, second, false, turns - 1)
                : play(free - bit, first, second + bit, true, turns - 1);
            if (!any || (firstTakes ? then > value : then < value)) value = then;
            any = true;
        }
        return value;
    }

    // ---- 7

    private void tellChance(BigInteger[] sums) {
        BigInteger whole = BigInteger.valueOf(12).pow(inside().size());
        BigInteger shared = sums[0].gcd(whole);
        upper = sums[0].divide(shared).longValueExact();
        lower = whole.divide(shared).longValueExact();
    }

    private void goThroughLosses(List<Integer> rest, int left, long ways, int p, int q, int v, BigInteger[] sums) {
        if (rest.isEmpty()) {
            long worth = v < 0 ? best(left) : most(left) >= v ? 1 : 0;
            sums[0] = sums[0].add(BigInteger.valueOf(worth).multiply(BigInteger.valueOf(ways)));
            return;
        }
        int i = rest.get(0);
        Item item = items.get(i);
        int loss = item.hand() == 0 ? p : q;
        if (item.anyHand() && p > loss) loss = p;
        if (item.anyHand() && q > loss) loss = q;
        if (item.kind() == 's') loss = 0;
        List<Integer> later = rest.subList(1, rest.size());
        goThroughLosses(later, left, ways * loss, p, q, v, sums);
        goThroughLosses(later, left | 1 << i, ways * (12 - loss), p, q, v, sums);
    }

    int odds(int v, int p, int q) {
        if (!within(v, 0, 4) || !within(p, 0, 12) || !within(q, 0, 12)) return BAD;
        if (items.isEmpty()) return STATE;
        BigInteger[] sums = {BigInteger.ZERO};
        goThroughLosses(inside(), 0, 1, p, q, v, sums);
        tellChance(sums);
        return 1;
    }

    int mid(int p, int q) {
        if (!within(p, 0, 12) || !within(q, 0, 12)) return BAD;
        if (items.isEmpty()) return STATE;
        BigInteger[] sums = {BigInteger.ZERO};
        goThroughLosses(inside(), 0, 1, p, q, -1, sums);
        tellChance(sums);
        return 1;
    }

    int lots(int n, int seed) {
        if (!within(n, 1, 20) || !within(seed, 1, 2147483646)) return BAD;
        if (items.isEmpty()) return STATE;
        if (deeds() + n > 40) return FULL;
        BigInteger number = BigInteger.valueOf(seed);
        for (int k = 0; k < n; k++) {
            number = number.multiply(BigInteger.valueOf(48271)).mod(BigInteger.valueOf(2147483647));
            int i = number.divide(BigInteger.valueOf(8)).mod(BigInteger.valueOf(items.size())).intValueExact();
            if (lose(i) >= 0) continue;
            if (back(i) >= 0) continue;
            wearFirst();
        }
        return inside().size();
    }

    private void wearFirst() {
        for (int i = 0; i < items.size(); i++) {
            for (int j = i + 1; j < items.size(); j++) {
                if (wear(i, j) >= 0) return;
            }
        }
        past.add(now().next());
    }

    // ---- 8

    int asked() {
        return asked;
    }

    long upper() {
        return upper;
    }

    long lower() {
        return lower;
    }

    private int setAt(int where) {
        int set = 0;
        for (int i = 0; i < items.size(); i++) if (now().where[i] == where) set += 1 << i;
        return set;
    }

    int count(int what) {
        int sum = 0;
        switch (what) {
            case 0: return items.size();
            case 1: return items.isEmpty() ? 0 : room;
            case 2: return deeds();
            case 3: return setAt(0);
            case 4: return setAt(1);
            case 5: return setAt(2);
            case 6:
                for (int wear : now().wear) sum += wear;
                return sum;
            case 7:
                for (Item item : items) if (item.kind() == 'm' || item.kind() == 'l') sum++;
                return sum;
            case 8:
                for (int[] row : rows) if (row != null) sum++;
                return sum;
            case 9:
                for (byte[] text : texts) if (text != null) sum++;
                return sum;
            case 10:
                for (List<Place> one : kept) if (one != null) sum++;
                return sum;
            default: return BAD;
        }
    }

    int finding() {
        return finding;
    }

    int findings(int f) {
        return within(f, 1, 5) ? findings[f] : BAD;
    }

    long digest() {
        List<Long> all = new ArrayList<>();
        for (int what = 0; what <= 10; what++) all.add((long) count(what));
        for (int i = 0; i < items.size(); i++) for (int what = 0; what <= 6; what++) all.add((long) of(i, what));
        for (List<Place> one : kept) all.add(one == null ? -1L : one.size() - 1L);
        for (int[] row : rows) {
            all.add(row == null ? -1L : (long) row.length);
            if (row != null) for (int v : row) all.add((long) v);
        }
        for (byte[] text : texts) {
            all.add(text == null ? -1L : (long) text.length);
            if (text != null) for (byte v : text) all.add((long) v);
        }
        long h = 17;
        for (long v : all) h = 31 * h + v;
        return h;
    }
}
