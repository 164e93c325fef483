/** Promises 11 to 14: a DRAWER, what a GLOVE is, what it tells, a PAIR. */
public final class GlovesTest {
    private static final int BAD = -1, FINDING = -3, STATE = -4, NONE = -9;
    private static final int NOTHING = 1, UNLIKE = 3;
    private static final Checks CHECKS = new Checks("GlovesTest");

    public static void main(String[] args) {
        promise11();
        promise11Anew();
        promise12();
        promise12Warmth();
        promise12Lined();
        promise13();
        promise13Refused();
        promise14();
        promise14Kinds();
        CHECKS.end();
    }

    private static void promise11() {
        DrawerGloves x = new DrawerGloves();
        CHECKS.same("11 no TEXT", x.drawer(4), BAD);
        CHECKS.same("11 no TEXT below", x.drawer(-1), BAD);
        CHECKS.finding("11 missing", x, x.drawer(0), NOTHING);
        Desk.write(x, 0, "d1 g305");
        Desk.write(x, 1, "d3 m416 l307");
        Desk.write(x, 2, "d3 m416 l30");
        CHECKS.same("11 one", x.drawer(0), 1);
        CHECKS.same("11 two", x.drawer(1), 2);
        CHECKS.same("11 a FAULT", x.drawer(2), STATE);
        CHECKS.same("11 it stays: GLOVES", x.count(0), 2);
        CHECKS.same("11 it stays: ROOM", x.count(1), 3);
        CHECKS.same("11 it stays: how WARM", Desk.of(x, 1, 3), 7);
    }

    private static void promise11Anew() {
        DrawerGloves x = Desk.with("d2 g305 m417 g205");
        x.wear(0, 1);
        x.lose(0);
        x.out(1);
        x.keep(0);
        x.keep(2);
        Desk.lay(x, 3, 77);
        Desk.write(x, 1, "d1 x");
        x.drawer(1);
        CHECKS.same("11 refused, kept DRAWERS stay", x.count(10), 2);
        CHECKS.same("11 anew by the same TEXT", x.drawer(0), 3);
        CHECKS.same("11 all in it, more than ROOM", x.count(3), 7);
        CHECKS.same("11 no WEAR", x.count(6), 0);
        CHECKS.same("11 no DEEDS", x.count(2), 0);
        CHECKS.same("11 kept DRAWERS go", x.count(10), 0);
        CHECKS.finding("11 a kept one went", x, x.on(0), NOTHING);
        CHECKS.same("11 ROWS stay", Desk.place(x, 3, 0), 77);
    }

    private static void promise12() {
        DrawerGloves x = Desk.with("d8 g307 m417 e507 s617 l707 t807");
        int[][] due = {{0, 3, 0, 7, 0, 7, 0}, {1, 4, 1, 7, 0, 9, 0}, {2, 5, 0, 7, 0, 6, 0},
            {3, 6, 1, 7, 0, 7, 0}, {4, 7, 0, 7, 0, 10, 0}, {5, 8, 0, 7, 0, 6, 0}};
        for (int i = 0; i < due.length; i++) {
            for (int what = 0; what < 7; what++) {
                CHECKS.same("12 glove " + i + ", " + what, x.glove(i, what), 1);
                CHECKS.same("12 told of glove " + i + ", " + what, x.asked(), due[i][what]);
            }
        }
        x.lose(1);
        x.out(2);
        CHECKS.same("12 LOST", Desk.of(x, 1, 6), 1);
        CHECKS.same("12 OUT", Desk.of(x, 2, 6), 2);
        CHECKS.same("12 no GLOVE", x.glove(6, 0), BAD);
        CHECKS.same("12 no GLOVE below", x.glove(-1, 0), BAD);
        CHECKS.same("12 none such", x.glove(0, 7), BAD);
        CHECKS.same("12 none such below", x.glove(0, -1), BAD);
        CHECKS.same("12 refused, asked() stays", x.asked(), 2);
    }

    private static void promise12Warmth() {
        DrawerGloves x = Desk.with("d8 g000 m010 e000 s010 l000 t011");
        int[] due = {0, 2, 0, 0, 3, 0};
        for (int i = 0; i < due.length; i++) CHECKS.same("12 cold " + i, Desk.of(x, i, 5), due[i]);
        Desk.wearOften(x, 0, 1, 4);
        Desk.wearOften(x, 2, 3, 4);
        for (int i = 0; i < due.length; i++) CHECKS.same("12 cold, worn " + i, Desk.of(x, i, 5), due[i]);
        x = Desk.with("d8 g007 m017 e007 s017 l007 t017");
        int[][] worn = {{7, 9, 6, 7, 10, 6}, {7, 9, 6, 7, 10, 6}, {7, 9, 6, 7, 10, 6}, {6, 8, 5, 6, 9, 5},
            {6, 8, 5, 6, 9, 5}, {6, 8, 5, 6, 9, 5}, {5, 7, 4, 5, 5, 4}, {5, 7, 4, 5, 5, 4}};
        for (int wear = 0; wear < worn.length; wear++) {
            for (int i = 0; i < 6; i++) {
                CHECKS.same("12 glove " + i + " worn " + wear, Desk.of(x, i, 5), worn[wear][i]);
            }
            x.wear(0, 1);
            x.wear(2, 3);
            x.wear(4, 5);
        }
    }

    private static void promise12Lined() {
        DrawerGloves x = Desk.with("d8 l009 g019");
        int[] worth = {21, 21, 21, 19, 19, 19, 14, 14, 14, 12};
        int[] yet = {6, 5, 4, 3, 2, 1, 0, 0, 0, 0};
        for (int wear = 0; wear < worth.length; wear++) {
            CHECKS.same("13 LINED, worn " + wear, x.mark(0, 4), yet[wear]);
            CHECKS.same("13 LINED as a MITTEN, worn " + wear, x.mark(0, 1), wear < 6 ? 3 : 0);
            CHECKS.same("15 LINED, worn " + wear, x.wear(0, 1), worth[wear]);
        }
    }

    private static void promise13() {
        DrawerGloves x = Desk.with("d8 e005 g005 g005 s015 t005");
        CHECKS.same("13 EITHER", x.mark(0, 2), 4);
        CHECKS.same("13 STRETCH as EITHER", x.mark(4, 2), 4);
        x.lose(1);
        CHECKS.same("13 EITHER, of the drawer", x.mark(0, 2), 3);
        x.lose(0);
        CHECKS.same("13 EITHER, LOST itself", x.mark(0, 2), 3);
        x = Desk.with("d8 s305 g315 g405 s315");
        CHECKS.same("13 STRING", x.mark(0, 3), 2);
        x.lose(1);
        CHECKS.same("13 STRING, of the drawer", x.mark(0, 3), 1);
        x.out(0);
        CHECKS.same("13 STRING, OUT itself", x.mark(0, 3), 1);
        x = Desk.with("d8 t204 g516 g207 t909 e814");
        CHECKS.same("13 STRETCH", x.mark(0, 5), 12);
        x.out(1);
        CHECKS.same("13 STRETCH, of the drawer", x.mark(0, 5), 6);
        x = Desk.with("d8 g416 s415 t204");
        CHECKS.same("13 STRING, with the first one", x.mark(1, 3), 1);
        CHECKS.same("13 STRETCH, with the first one", x.mark(2, 5), 8);
        x = Desk.with("d8 m000 g013");
        Desk.wearOften(x, 0, 1, 3);
        CHECKS.same("13 MITTEN, worn", x.mark(0, 1), 2);
    }

    private static void promise13Refused() {
        DrawerGloves x = Desk.with("d8 g005 m005 e005 s005 l005 t005");
        int[] is = {1, 1 + 2, 1 + 4, 1 + 8, 1 + 2 + 16, 1 + 4 + 32};
        for (int i = 0; i < 6; i++) {
            for (int kind = 1; kind <= 5; kind++) {
                boolean fits = (is[i] >> kind & 1) == 1;
                int got = x.mark(i, kind);
                CHECKS.same("13 is " + i + " of " + kind, got == FINDING ? 0 : 1, fits ? 1 : 0);
                if (!fits) CHECKS.finding("13 " + i + " is not of " + kind, x, got, UNLIKE);
            }
        }
        CHECKS.same("13 KIND 0", x.mark(0, 0), BAD);
        CHECKS.same("13 KIND 6", x.mark(0, 6), BAD);
        CHECKS.same("13 KIND below", x.mark(0, -1), BAD);
        CHECKS.same("13 no GLOVE", x.mark(6, 1), BAD);
        CHECKS.same("13 no GLOVE below", x.mark(-1, 1), BAD);
    }

    private static void promise14() {
        DrawerGloves x = Desk.with("d8 g308 g514 g309");
        CHECKS.same("14 pair", x.pair(0, 1), 8);
        CHECKS.same("14 the other way", x.pair(1, 0), 8);
        CHECKS.same("14 one HAND", x.pair(0, 2), NONE);
        CHECKS.same("14 alike", x.pair(1, 1), BAD);
        CHECKS.same("14 no GLOVE", x.pair(0, 3), BAD);
        CHECKS.same("14 no first GLOVE", x.pair(-1, 0), BAD);
        x.lose(0);
        x.out(1);
        CHECKS.same("14 wherever they are", x.pair(0, 1), 8);
    }

    private static void promise14Kinds() {
        DrawerGloves x = Desk.with("d8 g005 e005 t905 e015 t915 g915 g005 s915");
        CHECKS.same("14 EITHER with a left one", x.pair(0, 1), 9);
        CHECKS.same("14 two EITHER ones", x.pair(1, 3), 8);
        CHECKS.same("14 STRETCH: nothing less", x.pair(0, 2), 9);
        CHECKS.same("14 STRETCH behind: nothing less", x.pair(2, 1), 8);
        CHECKS.same("14 two STRETCH ones", x.pair(2, 4), 8);
        CHECKS.same("14 0 at least", x.pair(0, 5), 0);
        CHECKS.same("14 EITHER far apart", x.pair(3, 5), 0);
        CHECKS.same("14 two left ones", x.pair(0, 6), NONE);
        CHECKS.same("14 two right ones", x.pair(5, 7), NONE);
    }
}
