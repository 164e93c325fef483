/** Promises 29 to 32: what a GLOVE can be by how GOOD its PAIRS were, the next to try it with. */
public final class GuessTest {
    private static final int BAD = -1, NONE = -9;
    private static final int NOTHING = 1, UNLIKE = 3, SIZE = 5;
    private static final Checks CHECKS = new Checks("GuessTest");

    public static void main(String[] args) {
        promise29();
        promise30();
        promise31();
        promise31Worn();
        promise32();
        promise32None();
        refused();
        CHECKS.end();
    }

    private static int sorts(DrawerGloves x, int i, int... pairs) {
        Desk.lay(x, 1, pairs);
        return x.sorts(i, 1);
    }

    private static int hands(DrawerGloves x, int i, int... pairs) {
        Desk.lay(x, 1, pairs);
        return x.hands(i, 1);
    }

    private static int kinds(DrawerGloves x, int i, int... pairs) {
        Desk.lay(x, 1, pairs);
        return x.kinds(i, 1);
    }

    private static void promise29() {
        DrawerGloves x = Desk.with("d8 g305 g413 t903 e705");
        CHECKS.same("29 nothing told", sorts(x, 0), 1023);
        CHECKS.same("29 one apart", sorts(x, 0, 1, 6), 8 + 32);
        CHECKS.same("29 as it is", sorts(x, 0, 1, 8), 16);
        CHECKS.same("29 two pairs", sorts(x, 0, 1, 6, 3, 5), 32);
        CHECKS.same("29 the same twice", sorts(x, 0, 1, 6, 1, 6), 40);
        CHECKS.same("29 at odds", sorts(x, 0, 1, 6, 1, 8), 0);
        CHECKS.same("29 0 at least", sorts(x, 0, 1, 0), 1 + 256 + 512);
        CHECKS.same("29 with a STRETCH one", sorts(x, 0, 2, 7), 1023);
        CHECKS.same("29 none, but they make one", sorts(x, 0, 1, NONE), 0);
        CHECKS.same("29 never so GOOD", sorts(x, 0, 1, Integer.MAX_VALUE), 0);
        CHECKS.same("29 it stays as it was", Desk.of(x, 0, 1), 3);
        x.out(0);
        x.lose(1);
        CHECKS.same("29 wherever they are", sorts(x, 0, 1, 6), 40);
    }

    private static void promise30() {
        DrawerGloves x = Desk.with("d8 g305 g413 e403");
        CHECKS.same("30 nothing told", hands(x, 0), 3);
        CHECKS.same("30 left", hands(x, 0, 1, 6), 1);
        CHECKS.same("30 right", hands(x, 0, 1, NONE), 2);
        CHECKS.same("30 neither", hands(x, 0, 1, 7), 0);
        CHECKS.same("30 with an EITHER one", hands(x, 0, 2, 5), 3);
        CHECKS.same("30 an EITHER one", hands(x, 2, 0, 5), 3);
        CHECKS.same("30 an EITHER one, none", hands(x, 2, 0, NONE), 0);
        CHECKS.same("30 it stays as it was", Desk.of(x, 0, 2), 0);
    }

    private static void promise31() {
        DrawerGloves x = Desk.with("d8 g305 g413 g307");
        CHECKS.same("31 nothing told", kinds(x, 0), 63);
        CHECKS.same("31 GLOVE, STRING", kinds(x, 0, 1, 6), 1 + 8);
        CHECKS.same("31 MITTEN", kinds(x, 0, 1, 8), 2);
        CHECKS.same("31 EITHER", kinds(x, 0, 1, 5), 4);
        CHECKS.same("31 LINED", kinds(x, 0, 1, 9), 16);
        CHECKS.same("31 STRETCH", kinds(x, 0, 1, 7), 32);
        CHECKS.same("31 none", kinds(x, 0, 1, NONE), 0);
        CHECKS.same("31 none with a left one", kinds(x, 0, 2, NONE), 1 + 2 + 8 + 16);
        CHECKS.same("31 one with a left one", kinds(x, 0, 2, 11), 4 + 32);
        CHECKS.same("31 both told", kinds(x, 0, 2, NONE, 1, 6), 1 + 8);
        CHECKS.same("31 it stays as it was", Desk.of(x, 0, 0), 0);
    }

    private static void promise31Worn() {
        DrawerGloves x = Desk.with("d8 g305 g413 g207");
        Desk.wearOften(x, 0, 1, 6);
        CHECKS.same("31 worn: LINED as a GLOVE", kinds(x, 0, 1, 2), 1 + 8 + 16);
        CHECKS.same("31 worn: STRETCH", kinds(x, 0, 1, 3), 32);
        CHECKS.same("31 worn: EITHER", kinds(x, 0, 1, 1), 4);
    }

    private static void test(DrawerGloves x, int i, int due, int part) {
        CHECKS.same("32 test of " + i, x.test(i, 1), due);
        CHECKS.same("32 the part for " + i, x.asked(), part);
    }

    private static void promise32() {
        DrawerGloves x = Desk.with("d8 g305 g307 g413 g413");
        Desk.lay(x, 1);
        test(x, 0, 2, 2);
        test(x, 1, 2, 2);
        test(x, 2, 0, 2);
        Desk.lay(x, 1, 2, 6);
        test(x, 0, 1, 2);
        Desk.lay(x, 1, 1, NONE);
        test(x, 0, 2, 2);
        Desk.lay(x, 1, 1, 11);
        test(x, 0, 2, 1);
        x.out(2);
        test(x, 0, 2, 1);
        // with those far apart in SORT PAIRS are as GOOD as nothing, whatever the kind
        x = Desk.with("d8 g000 g910 g010");
        Desk.lay(x, 1);
        test(x, 0, 2, 4);
    }

    private static void promise32None() {
        DrawerGloves x = Desk.with("d8 g305 g413");
        Desk.lay(x, 1, 1, 6);
        test(x, 0, 1, 2);
        x.good(0);
        Desk.lay(x, 1, 1, 99);
        int asked = x.asked();
        CHECKS.same("32 no KIND", x.test(0, 1), NONE);
        CHECKS.same("32 no KIND, asked() stays", x.asked(), asked);
        x = Desk.with("d8 g305");
        x.row(1, 0);
        CHECKS.same("32 no other GLOVE", x.test(0, 1), NONE);
    }

    private static int call(DrawerGloves x, int which, int i, int r) {
        switch (which) {
            case 0: return x.sorts(i, r);
            case 1: return x.hands(i, r);
            case 2: return x.kinds(i, r);
            default: return x.test(i, r);
        }
    }

    private static void refused() {
        for (int which = 0; which < 4; which++) {
            String name = (29 + which) + " ";
            DrawerGloves x = Desk.with("d8 g305 g413");
            CHECKS.same(name + "no GLOVE", call(x, which, 2, 0), BAD);
            CHECKS.same(name + "no GLOVE below", call(x, which, -1, 0), BAD);
            CHECKS.same(name + "no ROW", call(x, which, 0, 6), BAD);
            CHECKS.same(name + "no ROW below", call(x, which, 0, -1), BAD);
            CHECKS.finding(name + "missing", x, call(x, which, 0, 0), NOTHING);
            Desk.lay(x, 0, 9, 9, 9);
            CHECKS.finding(name + "not by pairs, ahead of UNLIKE", x, call(x, which, 0, 0), SIZE);
            Desk.lay(x, 0, 2, 5);
            CHECKS.finding(name + "no GLOVE told", x, call(x, which, 0, 0), UNLIKE);
            Desk.lay(x, 0, -1, 5);
            CHECKS.finding(name + "no GLOVE told, below", x, call(x, which, 0, 0), UNLIKE);
            Desk.lay(x, 0, 1, 6, 0, 5);
            CHECKS.finding(name + "that one", x, call(x, which, 0, 0), UNLIKE);
            Desk.lay(x, 0, 1, -1);
            CHECKS.finding(name + "below 0", x, call(x, which, 0, 0), UNLIKE);
            Desk.lay(x, 0, 1, 99, 1, -10);
            CHECKS.finding(name + "below NONE, behind one at odds", x, call(x, which, 0, 0), UNLIKE);
        }
        CHECKS.same("29 no GLOVES", new DrawerGloves().sorts(0, 0), BAD);
    }
}
