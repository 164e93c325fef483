/**
 * Runs of calls from fixed seeds on the class and on Slow: each answer, and all that is told after it,
 * has to be the same. Places and numbers are often at an edge or beyond it. No object is used for more than
 * 512 calls: the document leaves free what later ones answer.
 */
public final class RandomRunsTest {
    private static final int[] WILD = {-1, 0, 1, 2, 5, 8, 39, 40, 41, 59, 60, 61, 255, 256, 1000,
        -9, Integer.MAX_VALUE, Integer.MIN_VALUE, Integer.MAX_VALUE - 1};

    private static final int RUNS = 1000, MOST_STEPS = 60;
    private static final int MOST_CALLS = 512, CALLS_OF_A_STEP = 90, CALLS_AT_LAST = 7;

    private final Checks checks;
    private final int run;
    private final DrawerGloves x = new DrawerGloves();
    private final Slow y = new Slow();
    private long state;
    private int calls;

    private RandomRunsTest(Checks checks, int run) {
        this.checks = checks;
        this.run = run;
        this.state = 88172645463325252L + 7919L * run;
        for (int k = 0; k < 20; k++) below(2);
    }

    public static void main(String[] args) {
        Checks checks = new Checks("RandomRunsTest");
        for (int run = 0; run < RUNS && checks.wrong() == 0; run++) new RandomRunsTest(checks, run).go();
        checks.end();
    }

    private int below(int n) {
        state ^= state << 13;
        state ^= state >>> 7;
        state ^= state << 17;
        return (int) Math.floorMod(state >>> 11, (long) n);
    }

    private boolean seldom() {
        return below(16) == 0;
    }

    private int wild() {
        return WILD[below(WILD.length)];
    }

    /** Mostly below n, at times anything. */
    private int number(int n) {
        return seldom() ? wild() : below(n);
    }

    private int gloveNumber() {
        return number(Math.max(1, size()));
    }

    private int set() {
        return number(1 << size());
    }

    private int size() {
        calls++;
        return x.count(0);
    }

    private void sameAnswer(String call, long got, long due) {
        calls++;
        checks.same("run " + run + " " + call, got, due);
    }

    private void same(String call, long got, long due) {
        sameAnswer(call, got, due);
        calls += 5;
        checks.same("run " + run + " asked() after " + call, x.asked(), y.asked());
        checks.same("run " + run + " upper() after " + call, x.upper(), y.upper());
        checks.same("run " + run + " lower() after " + call, x.lower(), y.lower());
        checks.same("run " + run + " finding() after " + call, x.finding(), y.finding());
        checks.same("run " + run + " digest() after " + call, x.digest(), y.digest());
    }

    private void go() {
        if (below(8) != 0) newDrawer();
        for (int k = 0; k < MOST_STEPS && calls + CALLS_OF_A_STEP + CALLS_AT_LAST <= MOST_CALLS; k++) {
            switch (below(12)) {
                case 0: rowCall(); break;
                case 1: textCall(); break;
                case 2: gloveCall(); break;
                case 3: case 4: case 5: deedCall(); break;
                case 6: asideCall(); break;
                case 7: dayCall(); break;
                case 8: guessCall(); break;
                case 9: chanceCall(); break;
                case 10: countCall(); break;
                default:
                    if (below(6) == 0) newDrawer(); else deedCall();
                    break;
            }
        }
        for (int f = 0; f <= 6; f++) sameAnswer("findings(" + f + ")", x.findings(f), y.findings(f));
        checks.same("run " + run + " keeps to its calls", calls <= MOST_CALLS ? 0 : calls, 0);
    }

    private void newDrawer() {
        String text = drawerText();
        int t = below(4);
        same("text(" + t + ", " + text.length() + ")", x.text(t, text.length()), y.text(t, text.length()));
        for (int i = 0; i < text.length(); i++) {
            sameAnswer("put(" + t + ", " + i + ", " + (int) text.charAt(i) + ")",
                x.put(t, i, text.charAt(i)), y.put(t, i, text.charAt(i)));
        }
        same("fault(" + t + ") of '" + text + "'", x.fault(t), y.fault(t));
        same("drawer(" + t + ") of '" + text + "'", x.drawer(t), y.drawer(t));
    }

    private String blanks() {
        return below(4) == 0 ? " ".repeat(1 + below(2)) : "";
    }

    private String drawerText() {
        StringBuilder text = new StringBuilder(blanks()).append('d').append(1 + below(8)).append(blanks());
        int size = seldom() ? 9 : 1 + below(8);
        int warmest = below(2) == 0 ? 10 : 4;
        for (int g = 0; g < size && text.length() < 50; g++) {
            text.append("gmeslt".charAt(below(6))).append(below(10)).append(below(2)).append(below(warmest));
            text.append(blanks());
        }
        if (below(8) == 0) text.setCharAt(below(text.length()), (char) (32 + below(95)));
        if (seldom()) text.setLength(below(text.length()));
        return text.toString();
    }

    private void rowCall() {
        int r = number(6);
        int i = number(8);
        int v = below(3) == 0 ? wild() : below(20);
        int to = number(6);
        int j = number(8);
        int n = number(6);
        switch (below(6)) {
            case 0: same("row(" + r + ", " + n + ")", x.row(r, n), y.row(r, n)); break;
            case 1: same("lay(" + r + ", " + i + ", " + v + ")", x.lay(r, i, v), y.lay(r, i, v)); break;
            case 2: same("at(" + r + ", " + i + ")", x.at(r, i), y.at(r, i)); break;
            case 3:
                if (below(3) == 0) same("tear(" + r + ")", x.tear(r), y.tear(r));
                break;
            case 4:
                same("copy(" + r + ", " + i + ", " + to + ", " + j + ", " + n + ")",
                    x.copy(r, i, to, j, n), y.copy(r, i, to, j, n));
                break;
            default: same("mean(" + r + ")", x.mean(r), y.mean(r)); break;
        }
    }

    private void textCall() {
        int t = number(4);
        int n = number(61);
        int i = number(12);
        int v = below(2) == 0 ? wild() : below(256);
        switch (below(5)) {
            case 0: same("text(" + t + ", " + n + ")", x.text(t, n), y.text(t, n)); break;
            case 1: case 2:
                same("put(" + t + ", " + i + ", " + v + ")", x.put(t, i, v), y.put(t, i, v));
                break;
            case 3: same("fault(" + t + ")", x.fault(t), y.fault(t)); break;
            default:
                if (below(3) == 0) same("drawer(" + t + ")", x.drawer(t), y.drawer(t));
                break;
        }
    }

    private void gloveCall() {
        int i = gloveNumber();
        int j = gloveNumber();
        int what = number(7);
        int kind = number(6);
        switch (below(4)) {
            case 0: same("glove(" + i + ", " + what + ")", x.glove(i, what), y.glove(i, what)); break;
            case 1: same("pair(" + i + ", " + j + ")", x.pair(i, j), y.pair(i, j)); break;
            default: same("mark(" + i + ", " + kind + ")", x.mark(i, kind), y.mark(i, kind)); break;
        }
    }

    private void deedCall() {
        int i = gloveNumber();
        int j = gloveNumber();
        int k = number(3);
        int n = number(20) + 1;
        int seed = below(4) == 0 ? wild() : 1 + below(2147483646);
        switch (below(11)) {
            case 0: case 1: case 2: same("wear(" + i + ", " + j + ")", x.wear(i, j), y.wear(i, j)); break;
            case 3: case 4: same("lose(" + i + ")", x.lose(i), y.lose(i)); break;
            case 5: case 6: same("back(" + i + ")", x.back(i), y.back(i)); break;
            case 7:
                if (below(2) == 0) same("out(" + i + ")", x.out(i), y.out(i));
                break;
            case 8:
                int from = number(x.count(2) + 1);
                calls++;
                if (below(2) == 0) same("undo(" + from + ")", x.undo(from), y.undo(from));
                break;
            case 9:
                if (below(2) == 0) same("keep(" + k + ")", x.keep(k), y.keep(k));
                else same("on(" + k + ")", x.on(k), y.on(k));
                break;
            default: same("lots(" + n + ", " + seed + ")", x.lots(n, seed), y.lots(n, seed)); break;
        }
    }

    private void asideCall() {
        int set = set();
        int other = set();
        int r = number(6);
        switch (below(5)) {
            case 0: same("good(" + set + ")", x.good(set), y.good(set)); break;
            case 1: same("pairs(" + r + ")", x.pairs(r), y.pairs(r)); break;
            case 2: same("missed()", x.missed(), y.missed()); break;
            case 3: same("wished()", x.wished(), y.wished()); break;
            default: same("join(" + set + ", " + other + ")", x.join(set, other), y.join(set, other)); break;
        }
    }

    private void dayCall() {
        int n = below(3) == 0 ? number(4) : below(3);
        int r = number(6);
        int turns = below(12) == 0 ? number(7) : number(5);
        switch (below(3)) {
            case 0: same("days(" + n + ", " + r + ")", x.days(n, r), y.days(n, r)); break;
            case 1: same("room()", x.room(), y.room()); break;
            default: same("duel(" + turns + ")", x.duel(turns), y.duel(turns)); break;
        }
    }

    /** A ROW that the GLOVE itself answers as another kind, sort or hand of it would; at times any ROW. */
    private void guessCall() {
        int i = gloveNumber();
        int r = number(6);
        if (below(4) != 0) layPairs(i, r);
        switch (below(4)) {
            case 0: same("sorts(" + i + ", " + r + ")", x.sorts(i, r), y.sorts(i, r)); break;
            case 1: same("hands(" + i + ", " + r + ")", x.hands(i, r), y.hands(i, r)); break;
            case 2: same("kinds(" + i + ", " + r + ")", x.kinds(i, r), y.kinds(i, r)); break;
            default: same("test(" + i + ", " + r + ")", x.test(i, r), y.test(i, r)); break;
        }
    }

    private void layPairs(int i, int r) {
        int told = below(3);
        int size = seldom() ? 2 * told + 1 : 2 * told;
        same("row(" + r + ", " + size + ")", x.row(r, size), y.row(r, size));
        for (int k = 0; k < told; k++) {
            int other = gloveNumber();
            int worth = x.pair(i, other);
            calls++;
            if (below(5) == 0) worth += below(7) - 3;
            int place = 2 * k;
            same("lay(" + r + ", " + place + ", " + other + ")", x.lay(r, place, other), y.lay(r, place, other));
            same("lay(" + r + ", " + (place + 1) + ", " + worth + ")",
                x.lay(r, place + 1, worth), y.lay(r, place + 1, worth));
        }
    }

    private void chanceCall() {
        int v = number(5);
        int p = number(13);
        int q = number(13);
        if (below(2) == 0) {
            same("odds(" + v + ", " + p + ", " + q + ")", x.odds(v, p, q), y.odds(v, p, q));
        } else {
            same("mid(" + p + ", " + q + ")", x.mid(p, q), y.mid(p, q));
        }
    }

    private void countCall() {
        int what = number(12);
        same("count(" + what + ")", x.count(what), y.count(what));
    }
}
