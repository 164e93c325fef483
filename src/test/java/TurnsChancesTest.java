/** Promises 33 to 36: by turns, chances, LOTS. */
public final class TurnsChancesTest {
    private static final int BAD = -1, FULL = -2, STATE = -4;
    private static final Checks CHECKS = new Checks("TurnsChancesTest");

    public static void main(String[] args) {
        promise33();
        promise34();
        promise34Kinds();
        promise34Refused();
        promise35();
        promise36();
        promise36Else();
        promise36Refused();
        CHECKS.end();
    }

    private static void promise33() {
        DrawerGloves x = Desk.with("d8 g005 g015 g009 g019");
        CHECKS.same("33 no turn", x.duel(0), 100);
        CHECKS.same("33 one", x.duel(1), 100);
        CHECKS.same("33 two", x.duel(2), 100);
        CHECKS.same("33 three", x.duel(3), 114);
        CHECKS.same("33 four", x.duel(4), 100);
        CHECKS.same("33 more than there are", x.duel(6), 100);
        CHECKS.same("33 nothing is done", x.count(2), 0);
        x.lose(0);
        CHECKS.same("33 out of the drawer", x.duel(3), 114);
        x.lose(2);
        CHECKS.same("33 none to pair", x.duel(6), 100);
        x = Desk.with("d8 g009 g019 g001 g011 e005");
        CHECKS.same("33 five of five", x.duel(5), 103);
        x = Desk.with("d8 e001 e001 e001 e001 e001");
        CHECKS.same("33 all as cold", x.duel(5), 100);
        CHECKS.same("33 above", x.duel(7), BAD);
        CHECKS.same("33 below", x.duel(-1), BAD);
        CHECKS.same("33 no GLOVES", new DrawerGloves().duel(0), STATE);
        CHECKS.same("33 BAD ahead of STATE", new DrawerGloves().duel(7), BAD);
    }

    private static void odds(DrawerGloves x, int v, int p, int q, long upper, long lower) {
        String call = "odds(" + v + ", " + p + ", " + q + ")";
        CHECKS.same("34 " + call, x.odds(v, p, q), 1);
        CHECKS.same("34 upper of " + call, x.upper(), upper);
        CHECKS.same("34 lower of " + call, x.lower(), lower);
    }

    private static void promise34() {
        DrawerGloves x = Desk.with("d8 g005 g015");
        odds(x, 0, 6, 4, 1, 1);
        odds(x, 1, 6, 4, 1, 3);
        odds(x, 1, 0, 12, 0, 1);
        odds(x, 1, 12, 0, 0, 1);
        odds(x, 1, 1, 5, 77, 144);
        odds(x, 2, 0, 0, 0, 1);
        odds(x, 1, 0, 0, 1, 1);
        x.lose(0);
        odds(x, 1, 0, 0, 0, 1);
        odds(x, 0, 5, 5, 1, 1);
        x = Desk.with("d8 g005 g015 g005 g015 g005 g015 g005 g015");
        odds(x, 4, 1, 1, 214358881L, 429981696L);
        odds(x, 4, 11, 11, 1, 429981696L);
        odds(x, 1, 6, 6, 225, 256);
    }

    private static void promise34Kinds() {
        odds(Desk.with("d8 s005 g015"), 1, 12, 3, 3, 4);
        odds(Desk.with("d8 s005 s015"), 1, 12, 12, 1, 1);
        odds(Desk.with("d8 e005 g015"), 1, 3, 6, 1, 4);
        odds(Desk.with("d8 e005 g015"), 1, 6, 3, 3, 8);
        odds(Desk.with("d8 t015 g005"), 1, 3, 6, 3, 8);
        odds(Desk.with("d8 m005 l015"), 1, 3, 6, 3, 8);
    }

    private static void promise34Refused() {
        DrawerGloves x = Desk.with("d8 g005 g015");
        odds(x, 1, 6, 4, 1, 3);
        CHECKS.same("34 PAIRS above", x.odds(5, 0, 0), BAD);
        CHECKS.same("34 PAIRS below", x.odds(-1, 0, 0), BAD);
        CHECKS.same("34 p above", x.odds(0, 13, 0), BAD);
        CHECKS.same("34 p below", x.odds(0, -1, 0), BAD);
        CHECKS.same("34 q above", x.odds(0, 0, 13), BAD);
        CHECKS.same("34 q below", x.odds(0, 0, -1), BAD);
        CHECKS.same("34 refused, it stays", x.upper() * 100 + x.lower(), 103);
        CHECKS.same("34 no GLOVES", new DrawerGloves().odds(0, 0, 0), STATE);
        CHECKS.same("34 BAD ahead of STATE", new DrawerGloves().odds(0, 13, 0), BAD);
    }

    private static void mid(DrawerGloves x, int p, int q, long upper, long lower) {
        CHECKS.same("35 mid(" + p + ", " + q + ")", x.mid(p, q), 1);
        CHECKS.same("35 upper of mid(" + p + ", " + q + ")", x.upper(), upper);
        CHECKS.same("35 lower of mid(" + p + ", " + q + ")", x.lower(), lower);
    }

    private static void promise35() {
        DrawerGloves x = Desk.with("d8 g005 g015 g013");
        mid(x, 0, 0, 10, 1);
        mid(x, 12, 0, 0, 1);
        mid(x, 6, 4, 38, 9);
        x.lose(2);
        mid(x, 6, 4, 10, 3);
        mid(Desk.with("d8 s005 s015 g019"), 12, 12, 10, 1);
        CHECKS.same("35 p above", x.mid(13, 0), BAD);
        CHECKS.same("35 p below", x.mid(-1, 0), BAD);
        CHECKS.same("35 q above", x.mid(0, 13), BAD);
        CHECKS.same("35 q below", x.mid(0, -1), BAD);
        CHECKS.same("35 no GLOVES", new DrawerGloves().mid(0, 0), STATE);
        CHECKS.same("35 BAD ahead of STATE", new DrawerGloves().mid(0, 13), BAD);
    }

    /** The numbers from seed 1: 48271, 182605794, 1291394886, 1914720637; by 8 modulo 2: 1, 0, 0, 1. */
    private static void promise36() {
        int[] inside = {2, 1, 0, 1, 2};
        int[] lost = {0, 2, 3, 2, 0};
        for (int n = 1; n <= 4; n++) {
            DrawerGloves x = Desk.with("d8 g005 g015");
            CHECKS.same("36 lots " + n, x.lots(n, 1), inside[n]);
            CHECKS.same("36 LOST by " + n, x.count(4), lost[n]);
            CHECKS.same("36 DEEDS by " + n, x.count(2), n);
            CHECKS.same("36 no WEAR by " + n, x.count(6), 0);
        }
        DrawerGloves x = Desk.with("d8 g005 g015");
        CHECKS.same("36 the greatest seed", x.lots(1, 2147483646), 1);
        // it is 2147483647 - 48271 = 2147435376: by 8 an even number
        CHECKS.same("36 LOST by the greatest seed", x.count(4), 1);
    }

    private static void promise36Else() {
        DrawerGloves x = Desk.with("d1 g005 g015");
        CHECKS.same("36 no ROOM, no PAIR: nothing", x.lots(4, 1), 1);
        CHECKS.same("36 nothing, but a DEED", x.count(2) + 10 * x.count(6), 4);
        x = Desk.with("d8 g005");
        CHECKS.same("36 a single one: LOST, BACK, LOST", x.lots(3, 1), 0);
        x = Desk.with("d8 s005 s015");
        CHECKS.same("36 a STRING: a PAIR is WORN", x.lots(3, 1), 2);
        CHECKS.same("36 WEAR", x.count(6), 6);
        CHECKS.same("36 undone one by one", x.undo(1), 2);
        CHECKS.same("36 WEAR of the first", x.count(6), 2);
        x = Desk.with("d8 s005 s005 s015 s015 g900 g900");
        x.out(4);
        x.out(5);
        x.lots(1, 1);
        CHECKS.same("36 the first PAIR", Desk.of(x, 0, 4) + Desk.of(x, 2, 4), 2);
        x = Desk.with("d8 g005 g015 s005");
        x.out(0);
        CHECKS.same("36 OUT ones stay, no PAIR or one", x.lots(20, 3), Integer.bitCount(x.count(3)));
        CHECKS.same("36 never back", x.count(5), 1);
    }

    private static void promise36Refused() {
        DrawerGloves x = Desk.with("d8 s005 s015");
        CHECKS.same("36 none", x.lots(0, 1), BAD);
        CHECKS.same("36 above", x.lots(21, 1), BAD);
        CHECKS.same("36 below", x.lots(-1, 1), BAD);
        CHECKS.same("36 seed 0", x.lots(1, 0), BAD);
        CHECKS.same("36 seed below", x.lots(1, -5), BAD);
        CHECKS.same("36 seed above", x.lots(1, 2147483647), BAD);
        CHECKS.same("36 twenty", x.lots(20, 7), 2);
        CHECKS.same("36 nineteen more", x.lots(19, 7), 2);
        CHECKS.same("36 two more than 39", x.lots(2, 7), FULL);
        CHECKS.same("36 nothing of it was done", x.count(2), 39);
        CHECKS.same("36 BAD ahead of FULL", x.lots(2, 0), BAD);
        CHECKS.same("36 one more", x.lots(1, 7), 2);
        CHECKS.same("36 FULL", x.lots(1, 7), FULL);
        CHECKS.same("36 no GLOVES", new DrawerGloves().lots(1, 1), STATE);
        CHECKS.same("36 BAD ahead of STATE", new DrawerGloves().lots(0, 1), BAD);
    }
}
