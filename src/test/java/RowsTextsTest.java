/** Promises 1 to 10: a new object, ROWS, TEXTS, FAULTS. */
public final class RowsTextsTest {
    private static final int BAD = -1, FINDING = -3, NONE = -9;
    private static final int NOTHING = 1, BEYOND = 2, NOUGHT = 4, SIZE = 5;
    private static final int TOP = Integer.MAX_VALUE, BOTTOM = Integer.MIN_VALUE;
    private static final Checks CHECKS = new Checks("RowsTextsTest");

    public static void main(String[] args) {
        promise01();
        promise02();
        promise03();
        promise04();
        promise05();
        promise06();
        promise06Refused();
        promise07();
        promise08();
        promise09();
        promise10();
        promise10Blanks();
        CHECKS.end();
    }

    private static void promise01() {
        DrawerGloves x = new DrawerGloves();
        for (int what = 0; what <= 10; what++) CHECKS.same("1 count " + what, x.count(what), 0);
        for (int r = 0; r <= 5; r++) CHECKS.finding("1 at " + r, x, x.at(r, 0), NOTHING);
        for (int t = 0; t <= 3; t++) CHECKS.finding("1 fault " + t, x, x.fault(t), NOTHING);
        CHECKS.same("1 glove", x.glove(0, 0), BAD);
    }

    private static void promise02() {
        DrawerGloves x = new DrawerGloves();
        CHECKS.same("2 none", x.row(0, 0), 0);
        CHECKS.same("2 most", x.row(5, 40), 40);
        CHECKS.same("2 above", x.row(5, 41), BAD);
        CHECKS.same("2 far above", x.row(5, TOP), BAD);
        CHECKS.same("2 no ROW below", x.row(-1, 1), BAD);
        CHECKS.same("2 no ROW above", x.row(6, 1), BAD);
        CHECKS.same("2 BAD ahead of SIZE", x.row(6, -1), BAD);
        CHECKS.same("2 BAD is no FINDING", x.finding(), 0);
        CHECKS.finding("2 below", x, x.row(5, -1), SIZE);
        CHECKS.finding("2 far below", x, x.row(5, BOTTOM), SIZE);
        CHECKS.same("2 refused, it stays", Desk.place(x, 5, 39), 0);
        Desk.lay(x, 1, 7, 8, 9);
        CHECKS.same("2 anew", x.row(1, 2), 2);
        CHECKS.same("2 anew places", Desk.row(x, 1), "0 0");
        CHECKS.same("2 anew longer", x.row(1, 3), 3);
        CHECKS.same("2 anew longer places", Desk.row(x, 1), "0 0 0");
    }

    private static void promise03() {
        DrawerGloves x = new DrawerGloves();
        x.row(2, 2);
        CHECKS.same("3 lay", x.lay(2, 1, TOP), 1);
        CHECKS.same("3 what it was", x.asked(), 0);
        CHECKS.same("3 lay again", x.lay(2, 1, BOTTOM), 1);
        CHECKS.same("3 what it was then", x.asked(), TOP);
        CHECKS.same("3 what it is", Desk.place(x, 2, 1), BOTTOM);
        CHECKS.same("3 no ROW", x.lay(6, 0, 1), BAD);
        CHECKS.same("3 no ROW below", x.lay(-1, 0, 1), BAD);
        CHECKS.finding("3 missing", x, x.lay(3, 9, 1), NOTHING);
        CHECKS.finding("3 beyond", x, x.lay(2, 2, 1), BEYOND);
        CHECKS.finding("3 below", x, x.lay(2, -1, 1), BEYOND);
        CHECKS.finding("3 far beyond", x, x.lay(2, TOP, 1), BEYOND);
        CHECKS.same("3 refused, asked() stays", x.asked(), BOTTOM);
    }

    private static void promise04() {
        DrawerGloves x = new DrawerGloves();
        Desk.lay(x, 4, 5, -6);
        CHECKS.same("4 at", x.at(4, 1), 1);
        CHECKS.same("4 told", x.asked(), -6);
        CHECKS.same("4 no ROW", x.at(6, 0), BAD);
        CHECKS.same("4 no ROW below", x.at(BOTTOM, 0), BAD);
        CHECKS.finding("4 missing", x, x.at(0, 0), NOTHING);
        CHECKS.finding("4 beyond", x, x.at(4, 2), BEYOND);
        CHECKS.finding("4 below", x, x.at(4, BOTTOM), BEYOND);
        x.row(4, 0);
        CHECKS.finding("4 without places", x, x.at(4, 0), BEYOND);
    }

    private static void promise05() {
        DrawerGloves x = new DrawerGloves();
        x.row(0, 1);
        x.row(1, 0);
        CHECKS.same("5 tear", x.tear(0), 1);
        CHECKS.same("5 tear one without places", x.tear(1), 1);
        CHECKS.same("5 none there", x.count(8), 0);
        CHECKS.finding("5 twice", x, x.tear(0), NOTHING);
        CHECKS.same("5 no ROW", x.tear(6), BAD);
        CHECKS.same("5 no ROW below", x.tear(-1), BAD);
    }

    private static void promise06() {
        DrawerGloves x = new DrawerGloves();
        Desk.lay(x, 0, 1, 2, 3, 4, 5);
        CHECKS.same("6 forward", x.copy(0, 0, 0, 1, 4), 1);
        CHECKS.same("6 as if taken ahead", Desk.row(x, 0), "1 1 2 3 4");
        CHECKS.same("6 backward", x.copy(0, 2, 0, 0, 3), 1);
        CHECKS.same("6 as if taken ahead, backward", Desk.row(x, 0), "2 3 4 3 4");
        Desk.lay(x, 1, 8, 9);
        CHECKS.same("6 to another", x.copy(1, 0, 0, 3, 2), 1);
        CHECKS.same("6 another's places", Desk.row(x, 0), "2 3 4 8 9");
        CHECKS.same("6 the first one's stay", Desk.row(x, 1), "8 9");
        CHECKS.same("6 none, at both ends", x.copy(0, 5, 1, 2, 0), 1);
        CHECKS.same("6 nothing came", Desk.row(x, 1), "8 9");
    }

    private static void promise06Refused() {
        DrawerGloves x = new DrawerGloves();
        Desk.lay(x, 0, 1, 2, 3);
        Desk.lay(x, 1, 8, 9);
        CHECKS.same("6 no ROW", x.copy(6, 0, 0, 0, -1), BAD);
        CHECKS.same("6 no other ROW", x.copy(0, 0, -1, 0, -1), BAD);
        CHECKS.finding("6 SIZE ahead of NOTHING", x, x.copy(0, 0, 3, 0, -1), SIZE);
        CHECKS.finding("6 NOTHING ahead of BEYOND", x, x.copy(0, 9, 3, 0, 1), NOTHING);
        CHECKS.finding("6 the first one missing", x, x.copy(3, 0, 0, 9, 1), NOTHING);
        CHECKS.finding("6 beyond the first", x, x.copy(1, 1, 0, 0, 2), BEYOND);
        CHECKS.finding("6 beyond the other", x, x.copy(0, 0, 1, 0, 3), BEYOND);
        CHECKS.finding("6 none, below", x, x.copy(0, -1, 1, 0, 0), BEYOND);
        CHECKS.finding("6 none, other below", x, x.copy(0, 0, 1, -1, 0), BEYOND);
        CHECKS.finding("6 none, above", x, x.copy(0, 4, 1, 0, 0), BEYOND);
        CHECKS.finding("6 none, other above", x, x.copy(0, 0, 1, 3, 0), BEYOND);
        CHECKS.finding("6 far too many", x, x.copy(0, 1, 1, 1, TOP), BEYOND);
        CHECKS.finding("6 far beyond", x, x.copy(0, TOP, 1, TOP, TOP), BEYOND);
        CHECKS.same("6 refused, it stays", Desk.row(x, 1), "8 9");
    }

    private static void promise07() {
        DrawerGloves x = new DrawerGloves();
        Desk.lay(x, 0, 7, -2);
        CHECKS.same("7 mean", x.mean(0), 1);
        CHECKS.same("7 cut", x.asked(), 2);
        Desk.lay(x, 0, -3, 0);
        x.mean(0);
        CHECKS.same("7 cut, below 0", x.asked(), -1);
        Desk.lay(x, 0, TOP, TOP, TOP);
        x.mean(0);
        CHECKS.same("7 of the greatest", x.asked(), TOP);
        Desk.lay(x, 0, BOTTOM, BOTTOM);
        x.mean(0);
        CHECKS.same("7 of the least", x.asked(), BOTTOM);
        Desk.lay(x, 0, 5);
        x.mean(0);
        CHECKS.same("7 of one", x.asked(), 5);
        x.row(0, 0);
        CHECKS.finding("7 of none", x, x.mean(0), NOUGHT);
        CHECKS.finding("7 missing", x, x.mean(1), NOTHING);
        CHECKS.same("7 no ROW", x.mean(6), BAD);
        CHECKS.same("7 no ROW below", x.mean(-1), BAD);
    }

    private static void promise08() {
        DrawerGloves x = new DrawerGloves();
        CHECKS.same("8 none", x.text(0, 0), 0);
        CHECKS.same("8 most", x.text(3, 60), 60);
        CHECKS.same("8 above", x.text(3, 61), BAD);
        CHECKS.same("8 no TEXT", x.text(4, 1), BAD);
        CHECKS.same("8 no TEXT below, BAD ahead of SIZE", x.text(-1, -1), BAD);
        CHECKS.finding("8 below", x, x.text(3, -1), SIZE);
        CHECKS.same("8 blanks", x.put(3, 59, 'x'), 1032);
        CHECKS.same("8 anew", x.text(3, 60), 60);
        CHECKS.same("8 blanks anew", x.put(3, 59, 'x'), 1032);
    }

    private static void promise09() {
        DrawerGloves x = new DrawerGloves();
        x.text(1, 2);
        int[] put = {300, 128, -129, TOP, BOTTOM, 127, -128, 0};
        int[] then = {44, -128, 127, -1, 0, 127, -128, 0};
        int was = 32;
        for (int k = 0; k < put.length; k++) {
            CHECKS.same("9 put ahead of " + put[k], x.put(1, 1, put[k]), 1000 + was);
            was = then[k];
        }
        CHECKS.same("9 the last one", x.put(1, 1, 5), 1000 + was);
        CHECKS.same("9 the place beside it", x.put(1, 0, 5), 1032);
        CHECKS.same("9 no TEXT", x.put(4, 0, 1), BAD);
        CHECKS.same("9 no TEXT below", x.put(-1, 0, 1), BAD);
        CHECKS.finding("9 missing", x, x.put(0, 9, 1), NOTHING);
        CHECKS.finding("9 beyond", x, x.put(1, 2, 1), BEYOND);
        CHECKS.finding("9 below", x, x.put(1, -1, 1), BEYOND);
    }

    private static void fault(String text, int due) {
        DrawerGloves x = new DrawerGloves();
        Desk.write(x, 2, text);
        CHECKS.same("10 '" + text + "'", x.fault(2), due);
    }

    private static void promise10() {
        String eight = "g000m019e100s219l300t419g900g919";
        fault("", 0);
        fault("x", 0);
        fault("d", 1);
        fault("d0g000", 1);
        fault("d9g000", 1);
        fault("d1", 2);
        fault("d1x", 2);
        fault("d12g000", 2);
        fault("d1d1", 2);
        fault("D1g000", 0);
        fault("d1G000", 2);
        fault("d1g", 3);
        fault("d1gx", 3);
        fault("d1g:00", 3);
        fault("d1g/00", 3);
        fault("d1g0", 4);
        fault("d1g02", 4);
        fault("d1g00", 5);
        fault("d1g00:", 5);
        fault("d1g00/", 5);
        fault("d1g000", NONE);
        fault("d1g0000", 6);
        fault("d8" + eight, NONE);
        fault("d1" + eight, NONE);
        fault("d8" + eight + "g000", 34);
        fault("d8" + eight + "x", 34);
        fault("g000d1", 0);
        DrawerGloves x = new DrawerGloves();
        CHECKS.same("10 no TEXT", x.fault(4), BAD);
        CHECKS.same("10 no TEXT below", x.fault(-1), BAD);
        CHECKS.finding("10 missing", x, x.fault(0), NOTHING);
        CHECKS.same("10 told as a FINDING", x.fault(0), FINDING);
    }

    private static void promise10Blanks() {
        fault("   ", 3);
        fault("  d1  g000  ", NONE);
        fault("  d1  ", 6);
        fault("d 1g000", 1);
        fault("d1g 000", 3);
        fault("d1g0 00", 4);
        fault("d1g00 0", 5);
        fault("d1 g000 x", 8);
        fault("d1 g000 g01", 11);
        fault("d1\tg000", 2);
        DrawerGloves x = new DrawerGloves();
        Desk.write(x, 0, "d1g000");
        x.put(0, 2, 'g' + 256);
        CHECKS.same("10 cut to a byte", x.fault(0), NONE);
        x.put(0, 2, 'g' - 128);
        CHECKS.same("10 a byte below 0", x.fault(0), 2);
    }
}
