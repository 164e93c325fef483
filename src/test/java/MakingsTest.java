/** Promises 22 to 28: what sets of GLOVES make, days, ROOM. */
public final class MakingsTest {
    private static final int BAD = -1, STATE = -4, NONE = -9;
    private static final Checks CHECKS = new Checks("MakingsTest");

    public static void main(String[] args) {
        promise22();
        promise23();
        promise24();
        promise25();
        promise26();
        promise26Wear();
        promise27();
        promise27Ties();
        promise28();
        withoutGloves();
        CHECKS.end();
    }

    private static void good(DrawerGloves x, int set, int due, int pairs) {
        CHECKS.same("22 good(" + set + ")", x.good(set), due);
        CHECKS.same("22 PAIRS of " + set, x.asked(), pairs);
    }

    private static void promise22() {
        DrawerGloves x = Desk.with("d8 g005 g014 g013 g002");
        good(x, 0, 0, 0);
        good(x, 1, 0, 0);
        good(x, 3, 9, 1);
        good(x, 6, 0, 0);
        good(x, 7, 9, 1);
        good(x, 15, 14, 2);
        x.lose(0);
        x.out(1);
        good(x, 3, 9, 1);
        CHECKS.same("22 above", x.good(16), BAD);
        CHECKS.same("22 below", x.good(-1), BAD);
        CHECKS.same("22 far below", x.good(Integer.MIN_VALUE), BAD);
        CHECKS.same("22 refused, asked() stays", x.asked(), 1);
        // one PAIR is more GOOD here than the two that could be made
        good(Desk.with("d8 g900 e009 e009 g900"), 15, 16, 2);
        good(Desk.with("d8 e005 e006 e007 e008 t901 t902 t903 t904"), 255, 28, 4);
    }

    private static void pairs(String text, int due, String row) {
        DrawerGloves x = Desk.with(text);
        Desk.lay(x, 3, 1, 2, 3, 4, 5, 6, 7, 8, 9);
        CHECKS.same("23 pairs of '" + text + "'", x.pairs(3), due);
        CHECKS.same("23 the ROW of '" + text + "'", Desk.row(x, 3), row);
    }

    private static void promise23() {
        pairs("d8 g005", 0, "-9");
        pairs("d8 g000 g010", 0, "-9 -9");
        pairs("d8 g005 g015 g015", 10, "1 0 -9");
        pairs("d8 g005 g005 g015", 10, "-9 2 1");
        pairs("d8 g900 e009 e009 g900", 16, "-9 2 1 -9");
        pairs("d8 g005 g015 g005 g015", 20, "1 0 3 2");
        pairs("d8 g009 g918 g908 g019", 34, "3 2 1 0");
        DrawerGloves x = Desk.with("d8 g005 g015 g003 g013");
        x.lose(0);
        x.out(1);
        CHECKS.same("23 of the drawer", x.pairs(0), 6);
        CHECKS.same("23 of all GLOVES", Desk.row(x, 0), "-9 -9 3 2");
        CHECKS.same("23 no ROW", x.pairs(6), BAD);
        CHECKS.same("23 no ROW below", x.pairs(-1), BAD);
        CHECKS.same("23 the ROWS there", x.count(8), 1);
    }

    private static void promise24() {
        DrawerGloves x = Desk.with("d8 g005 g015 g014");
        CHECKS.same("24 missed", x.missed(), 0);
        CHECKS.same("24 by how much", x.asked(), 10);
        x.lose(0);
        CHECKS.same("24 by 0, the first", x.missed(), 1);
        CHECKS.same("24 by how much then", x.asked(), 0);
        x = Desk.with("d8 g015 g019 s005");
        CHECKS.same("24 a STRING", x.missed(), 2);
        CHECKS.same("24 by how much, a STRING", x.asked(), 14);
        x = Desk.with("d8 g005 g019");
        x.at(0, 0);
        CHECKS.same("24 the first of like ones", x.missed(), 0);
        x.lose(0);
        x.lose(1);
        CHECKS.same("24 it has none", x.missed(), NONE);
        CHECKS.same("24 asked() stays", x.asked(), 14);
    }

    private static void promise25() {
        DrawerGloves x = Desk.with("d8 g005 g015 g017 g017");
        CHECKS.same("25 all are in it", x.wished(), NONE);
        CHECKS.same("25 asked() stays", x.asked(), 0);
        x.lose(1);
        x.lose(3);
        x.out(2);
        CHECKS.same("25 wished, OUT", x.wished(), 2);
        CHECKS.same("25 by how much", x.asked(), 12);
        x.lose(0);
        CHECKS.same("25 by 0, the first", x.wished(), 0);
        CHECKS.same("25 by how much then", x.asked(), 0);
    }

    private static void days(DrawerGloves x, int n, int due, String row) {
        int asked = x.asked();
        CHECKS.same("26 days " + n, x.days(n, 2), due);
        CHECKS.same("26 asked() stays", x.asked(), asked);
        CHECKS.same("26 the ROW of " + n, Desk.row(x, 2), row);
    }

    private static void promise26() {
        DrawerGloves x = Desk.with("d8 g000 g005 g015 g114");
        Desk.lay(x, 2, 6, 6, 6);
        days(x, 0, 0, "");
        days(x, 1, 10, "12");
        days(x, 2, 20, "12 12");
        days(x, 3, 30, "12 12 12");
        CHECKS.same("26 aside", x.count(2) + x.count(6), 0);
        CHECKS.same("26 above", x.days(4, 2), BAD);
        CHECKS.same("26 below", x.days(-1, 2), BAD);
        CHECKS.same("26 no ROW", x.days(1, 6), BAD);
        CHECKS.same("26 no ROW below", x.days(1, -1), BAD);
        x.lose(1);
        days(x, 1, 5, "2");
        x.out(0);
        Desk.lay(x, 2, 7, 8, 9, 10);
        CHECKS.same("26 none", x.days(1, 2), NONE);
        CHECKS.same("26 none on three days", x.days(3, 2), NONE);
        CHECKS.same("26 the ROW stays", Desk.row(x, 2), "7 8 9 10");
        x.tear(4);
        CHECKS.same("26 none, a missing ROW", x.days(1, 4), NONE);
        CHECKS.finding("26 it is missing as ahead", x, x.tear(4), 1);
        CHECKS.same("26 none on no day", x.days(0, 2), 0);
        CHECKS.same("26 the ROW of no day", Desk.row(x, 2), "");
    }

    private static void promise26Wear() {
        DrawerGloves x = Desk.with("d8 g003 g013 g012");
        Desk.wearOften(x, 0, 1, 2);
        days(x, 1, 6, "1");
        days(x, 2, 10, "1 1");
        days(x, 3, 14, "1 1 1");
        // the lining goes with the sixth day: then the other right one is warmer
        x = Desk.with("d8 g004 l011 g013");
        days(x, 3, 24, "1 1 1");
        Desk.wearOften(x, 0, 1, 5);
        days(x, 1, 6, "1");
        days(x, 2, 11, "1 2");
        x = Desk.with("d1 g000 g910 g900");
        days(x, 2, 0, "1 1");
        Desk.wearOften(x, 0, 1, 40);
        days(x, 3, 0, "1 1 1");
    }

    private static void room(String text, int due, int asked) {
        DrawerGloves x = Desk.with(text);
        CHECKS.same("27 room of '" + text + "'", x.room(), due);
        CHECKS.same("27 how GOOD of '" + text + "'", x.asked(), asked);
    }

    private static void promise27() {
        room("d2 g005 g015 g003 g013", 0, 0);
        room("d3 g005 g015 g003 g013", 0, 0);
        room("d4 g005 g015 g003 g013", 15, 8);
        room("d8 g005 g015 g003 g013", 15, 8);
        room("d2 s005 s015 g009", 3, 10);
        room("d3 s005 s015 g009", 3, 10);
        room("d1 s005 s015", 0, 0);
        room("d3 s005 g013 g014 g012", 7, 8);
        room("d4 e006 e006 e006 e006", 7, 10);
        DrawerGloves x = Desk.with("d3 s005 g013 g014 g012");
        x.out(2);
        CHECKS.same("27 of the drawer", x.room(), 11);
        CHECKS.same("27 of the drawer, how GOOD", x.asked(), 7);
        CHECKS.same("27 nothing is done", x.count(2), 1);
    }

    private static void promise27Ties() {
        room("d3 s005 s015 s015 s005", 3, 10);
        room("d2 s004 s015 s005 s014", 6, 10);
        room("d3 e006 e006 e006 e006", 7, 10);
        room("d8 g005", 0, 0);
    }

    private static void promise28() {
        DrawerGloves x = Desk.with("d8 g005 g015 g004");
        CHECKS.same("28 joined", x.join(1, 2), 210);
        CHECKS.same("28 counts once", x.join(3, 3), 190);
        CHECKS.same("28 in part in both", x.join(3, 6), 191);
        CHECKS.same("28 with none", x.join(3, 0), 200);
        x.out(0);
        CHECKS.same("28 wherever they are", x.join(1, 2), 210);
        CHECKS.same("28 above", x.join(8, 1), BAD);
        CHECKS.same("28 the other above", x.join(1, 8), BAD);
        CHECKS.same("28 below", x.join(-1, 1), BAD);
        CHECKS.same("28 the other below", x.join(1, -1), BAD);
    }

    private static void withoutGloves() {
        DrawerGloves x = new DrawerGloves();
        CHECKS.same("22 no GLOVES", x.good(0), 0);
        CHECKS.same("22 no GLOVES, one", x.good(1), BAD);
        CHECKS.same("23 no GLOVES", x.pairs(0), STATE);
        CHECKS.same("23 BAD ahead of STATE", x.pairs(6), BAD);
        CHECKS.same("24 no GLOVES", x.missed(), STATE);
        CHECKS.same("25 no GLOVES", x.wished(), STATE);
        CHECKS.same("26 no GLOVES", x.days(0, 0), STATE);
        CHECKS.same("26 BAD ahead of STATE", x.days(4, 0), BAD);
        CHECKS.same("27 no GLOVES", x.room(), STATE);
        CHECKS.same("28 no GLOVES", x.join(0, 0), 200);
        CHECKS.same("no ROW came", x.count(8), 0);
    }
}
