/** Promises 37 to 43: what is told. */
public final class ToldTest {
    private static final int BAD = -1, NONE = -9;
    private static final Checks CHECKS = new Checks("ToldTest");

    public static void main(String[] args) {
        promise37();
        promise38And39();
        promise40();
        promise41And42();
        promise43();
        promise43Full();
        CHECKS.end();
    }

    private static void promise37() {
        DrawerGloves x = Desk.with("d8 g005 g015");
        CHECKS.same("37 ahead of any", new DrawerGloves().asked(), 0);
        CHECKS.same("37 drawer(), put() tell nothing", x.asked(), 0);
        x.glove(0, 3);
        CHECKS.same("37 glove()", x.asked(), 5);
        x.pair(0, 1);
        x.wear(0, 1);
        x.count(6);
        x.join(1, 2);
        x.pairs(0);
        x.days(1, 1);
        x.duel(2);
        x.odds(1, 1, 1);
        x.mid(1, 1);
        x.keep(0);
        x.row(2, 0);
        x.sorts(0, 2);
        x.hands(0, 2);
        x.kinds(0, 2);
        x.mark(0, 1);
        x.mean(2);
        x.wished();
        x.digest();
        CHECKS.same("37 others leave it", x.asked(), 5);
        x.good(3);
        CHECKS.same("37 good()", x.asked(), 1);
        x.missed();
        CHECKS.same("37 missed()", x.asked(), 10);
        x.test(0, 2);
        CHECKS.same("37 test()", x.asked(), 2);
        x.room();
        CHECKS.same("37 room()", x.asked(), 0);
        x.out(1);
        x.wished();
        CHECKS.same("37 wished()", x.asked(), 10);
        Desk.lay(x, 3, 6, 9);
        x.mean(3);
        CHECKS.same("37 mean()", x.asked(), 7);
        x.at(3, 1);
        CHECKS.same("37 at()", x.asked(), 9);
        x.lay(3, 0, 1);
        CHECKS.same("37 lay()", x.asked(), 6);
        x.drawer(0);
        CHECKS.same("37 a DRAWER anew leaves it", x.asked(), 6);
    }

    private static void promise38And39() {
        DrawerGloves x = Desk.with("d8 g005 g015");
        CHECKS.same("38 ahead of any", x.upper(), 0);
        CHECKS.same("39 ahead of any", x.lower(), 1);
        x.odds(1, 3, 0);
        CHECKS.same("38 of odds()", x.upper(), 3);
        CHECKS.same("39 of odds()", x.lower(), 4);
        x.mid(3, 0);
        CHECKS.same("38 of mid()", x.upper(), 15);
        CHECKS.same("39 of mid()", x.lower(), 2);
        x.mid(13, 0);
        x.drawer(0);
        CHECKS.same("38 it stays", x.upper(), 15);
        x.odds(1, 12, 12);
        CHECKS.same("38 0", x.upper(), 0);
        CHECKS.same("39 by 1", x.lower(), 1);
    }

    private static void counts(DrawerGloves x, int... due) {
        for (int what = 0; what < due.length; what++) CHECKS.same("40 count " + what, x.count(what), due[what]);
    }

    private static void promise40() {
        DrawerGloves x = new DrawerGloves();
        counts(x, 0, 0, 0, 0, 0, 0, 0, 0, 0, 0, 0);
        CHECKS.same("40 above", x.count(11), BAD);
        CHECKS.same("40 below", x.count(-1), BAD);
        Desk.write(x, 2, "d5 g005 m015 l005 e015 s005");
        x.drawer(2);
        counts(x, 5, 5, 0, 31, 0, 0, 0, 2, 0, 1, 0);
        x.wear(0, 1);
        x.wear(0, 1);
        x.lose(1);
        x.lose(3);
        x.out(2);
        x.row(0, 0);
        x.row(5, 3);
        x.text(0, 0);
        x.keep(1);
        counts(x, 5, 5, 5, 17, 10, 4, 4, 2, 2, 2, 1);
        x.tear(5);
        counts(x, 5, 5, 5, 17, 10, 4, 4, 2, 1, 2, 1);
    }

    private static void promise41And42() {
        DrawerGloves x = new DrawerGloves();
        CHECKS.same("41 ahead of any", x.finding(), 0);
        x.at(0, 0);
        CHECKS.same("41 NOTHING", x.finding(), 1);
        x.row(0, 0);
        x.at(0, 0);
        CHECKS.same("41 BEYOND", x.finding(), 2);
        x.mean(0);
        CHECKS.same("41 NOUGHT", x.finding(), 4);
        x.row(0, -1);
        CHECKS.same("41 SIZE", x.finding(), 5);
        Desk.write(x, 0, "d1 g000");
        x.drawer(0);
        x.mark(0, 5);
        x.mark(0, 4);
        CHECKS.same("41 UNLIKE", x.finding(), 3);
        x.mark(0, 0);
        x.lose(1);
        x.duel(1);
        CHECKS.same("41 BAD, answers leave it", x.finding(), 3);
        int[] due = {BAD, 1, 1, 2, 1, 1, BAD};
        for (int f = 0; f < due.length; f++) CHECKS.same("42 findings " + f, x.findings(f), due[f]);
        x.drawer(0);
        CHECKS.same("42 a DRAWER anew leaves them", x.findings(3), 2);
    }

    private static long digest(long... all) {
        long h = 17;
        for (long v : all) h = 31 * h + v;
        return h;
    }

    private static void promise43() {
        DrawerGloves x = new DrawerGloves();
        CHECKS.same("43 new", x.digest(), digest(0, 0, 0, 0, 0, 0, 0, 0, 0, 0, 0, -1, -1, -1,
            -1, -1, -1, -1, -1, -1, -1, -1, -1, -1));
        x.row(1, 0);
        Desk.lay(x, 4, 7, Integer.MIN_VALUE);
        x.text(0, 0);
        x.text(3, 2);
        x.put(3, 1, -5);
        CHECKS.same("43 ROWS, TEXTS", x.digest(), digest(0, 0, 0, 0, 0, 0, 0, 0, 2, 2, 0, -1, -1, -1,
            -1, 0, -1, -1, 2, 7, Integer.MIN_VALUE, -1, 0, -1, -1, 2, 32, -5));
        CHECKS.same("43 asked() stays", x.asked(), 0);
        CHECKS.same("43 again", x.digest(), x.digest());
    }

    private static void promise43Full() {
        DrawerGloves x = Desk.with("d3l409g213");
        x.text(0, 0);
        x.wear(0, 1);
        x.keep(2);
        x.lose(1);
        x.keep(0);
        CHECKS.same("43 GLOVES, kept", x.digest(), digest(2, 3, 2, 1, 2, 0, 2, 1, 0, 1, 2,
            4, 4, 0, 9, 1, 12, 0, 0, 2, 1, 3, 1, 3, 1, 2, -1, 1,
            -1, -1, -1, -1, -1, -1, 0, -1, -1, -1));
        CHECKS.same("the constants", DrawerGloves.BAD + 10 * DrawerGloves.FULL + 100 * DrawerGloves.FINDING
            + 1000 * DrawerGloves.STATE + 10000 * DrawerGloves.SPENT + 100000 * DrawerGloves.NONE,
            -1 - 20 - 300 - 4000 - 60000 - 900000);
        CHECKS.same("NONE", DrawerGloves.NONE, NONE);
    }
}
