/** Promises 15 to 21: DEEDS, undone, kept. */
public final class DeedsTest {
    private static final int BAD = -1, FULL = -2, STATE = -4, SPENT = -6, NOTHING = 1;
    private static final Checks CHECKS = new Checks("DeedsTest");

    public static void main(String[] args) {
        promise15();
        promise15Full();
        promise16();
        promise17();
        promise18();
        promise19();
        promise20And21();
        promise21Refused();
        CHECKS.end();
    }

    private static void promise15() {
        DrawerGloves x = Desk.with("d8 g004 g013 g005 s114");
        CHECKS.same("15 wear", x.wear(1, 0), 7);
        CHECKS.same("15 both are WORN", Desk.of(x, 0, 4) + 10 * Desk.of(x, 1, 4), 11);
        CHECKS.same("15 a DEED", x.count(2), 1);
        x.wear(0, 1);
        x.wear(0, 1);
        CHECKS.same("15 how GOOD it was", x.wear(0, 1), 5);
        CHECKS.same("15 a STRING", x.wear(2, 3), 7);
        CHECKS.same("15 alike", x.wear(0, 0), BAD);
        CHECKS.same("15 no GLOVE", x.wear(0, 4), BAD);
        CHECKS.same("15 no first GLOVE", x.wear(-1, 0), BAD);
        CHECKS.same("15 no PAIR", x.wear(0, 2), STATE);
        x.lose(0);
        CHECKS.same("15 LOST", x.wear(0, 1), STATE);
        CHECKS.same("15 LOST, behind", x.wear(1, 0), STATE);
        x.out(2);
        CHECKS.same("15 OUT", x.wear(2, 3), STATE);
        CHECKS.same("15 refused, no DEED", x.count(2), 7);
    }

    private static void promise15Full() {
        DrawerGloves x = Desk.with("d8 g004 g014 g005");
        Desk.wearOften(x, 0, 1, 39);
        CHECKS.same("15 the 40th", x.wear(0, 1), 0);
        CHECKS.same("15 FULL", x.wear(0, 1), FULL);
        CHECKS.same("15 FULL behind STATE", x.wear(0, 2), STATE);
        CHECKS.same("15 FULL behind BAD", x.wear(0, 0), BAD);
        CHECKS.same("15 WEAR stays", x.count(6), 80);
        x.undo(39);
        CHECKS.same("15 one undone", x.wear(0, 1), 0);
    }

    private static void promise16() {
        DrawerGloves x = Desk.with("d8 g004 s014 m005 l007 e001 t002");
        CHECKS.same("16 lose", x.lose(0), 5);
        CHECKS.same("16 lose a MITTEN", x.lose(2), 4);
        CHECKS.same("16 LOST", x.count(4), 5);
        CHECKS.same("16 twice", x.lose(0), STATE);
        CHECKS.same("16 a STRING", x.lose(1), STATE);
        x.out(3);
        CHECKS.same("16 OUT", x.lose(3), STATE);
        CHECKS.same("16 no GLOVE", x.lose(6), BAD);
        CHECKS.same("16 no GLOVE below", x.lose(-1), BAD);
        Desk.wearOften(x, 1, 4, 36);
        CHECKS.same("16 the 40th", x.lose(5), 2);
        CHECKS.same("16 40 DEEDS", x.count(2), 40);
        CHECKS.same("16 FULL", x.lose(4), FULL);
        CHECKS.same("16 FULL behind STATE", x.lose(1), STATE);
    }

    private static void promise17() {
        DrawerGloves x = Desk.with("d1 g005 g015 g105");
        CHECKS.same("17 in the drawer", x.back(0), STATE);
        x.lose(0);
        CHECKS.same("17 no ROOM", x.back(0), SPENT);
        CHECKS.same("17 no GLOVE", x.back(3), BAD);
        CHECKS.same("17 no GLOVE below", x.back(-1), BAD);
        Desk.wearOften(x, 1, 2, 39);
        CHECKS.same("17 no ROOM ahead of FULL", x.back(0), SPENT);
        x.undo(1);
        x.lose(1);
        CHECKS.same("17 still no ROOM", x.back(0), SPENT);
        x.out(2);
        CHECKS.same("17 back", x.back(0), 1);
        CHECKS.same("17 in the drawer again", x.count(3), 1);
        CHECKS.same("17 OUT", x.back(2), STATE);
        x = Desk.with("d3 g005 g015 g105");
        x.lose(0);
        Desk.wearOften(x, 1, 2, 39);
        CHECKS.same("17 FULL", x.back(0), FULL);
        x.undo(39);
        CHECKS.same("17 the 40th", x.back(0), 3);
        CHECKS.same("17 FULL behind STATE", x.back(1), STATE);
    }

    private static void promise18() {
        DrawerGloves x = Desk.with("d8 g005 g015 s105 g115");
        CHECKS.same("18 out", x.out(0), 3);
        CHECKS.same("18 a STRING", x.out(2), 2);
        x.lose(1);
        CHECKS.same("18 LOST, then OUT", x.out(1), 1);
        CHECKS.same("18 all OUT", x.count(5), 7);
        CHECKS.same("18 no more LOST", x.count(4), 0);
        CHECKS.same("18 twice", x.out(0), STATE);
        CHECKS.same("18 no GLOVE", x.out(4), BAD);
        CHECKS.same("18 no GLOVE below", x.out(-1), BAD);
        for (int k = 0; k < 18; k++) {
            x.lose(3);
            x.back(3);
        }
        CHECKS.same("18 40 DEEDS", x.count(2), 40);
        CHECKS.same("18 FULL", x.out(3), FULL);
        CHECKS.same("18 FULL behind STATE", x.out(0), STATE);
        x.undo(39);
        CHECKS.same("18 the 40th", x.out(3), 0);
    }

    private static void promise19() {
        DrawerGloves x = Desk.with("d8 g005 g015 g105");
        CHECKS.same("19 none", x.undo(0), 0);
        x.wear(0, 1);
        x.lose(0);
        x.back(0);
        x.lose(1);
        x.out(1);
        CHECKS.same("19 as many as there are", x.undo(5), 0);
        CHECKS.same("19 above", x.undo(6), BAD);
        CHECKS.same("19 below", x.undo(-1), BAD);
        CHECKS.same("19 OUT undone", x.undo(4), 1);
        CHECKS.same("19 LOST as ahead", x.count(4), 2);
        CHECKS.same("19 two undone", x.undo(2), 2);
        CHECKS.same("19 LOST as ahead of both", x.count(4), 1);
        CHECKS.same("19 WEAR stays", x.count(6), 2);
        CHECKS.same("19 all undone", x.undo(0), 2);
        CHECKS.same("19 no WEAR", x.count(6), 0);
        CHECKS.same("19 all in it", x.count(3), 7);
        x.lots(20, 99);
        CHECKS.same("19 LOTS undone", x.undo(7), 13);
        int inside = x.count(3);
        x.undo(0);
        x.lots(7, 99);
        CHECKS.same("19 as after 7 LOTS", x.count(3), inside);
    }

    private static void promise20And21() {
        DrawerGloves x = Desk.with("d8 g005 g015 g105");
        CHECKS.same("20 keep, no DEEDS", x.keep(0), 0);
        x.wear(0, 1);
        x.lose(2);
        CHECKS.same("20 keep", x.keep(2), 2);
        x.out(0);
        CHECKS.same("21 on", x.on(2), 2);
        CHECKS.same("21 OUT no more", x.count(5), 0);
        CHECKS.same("21 LOST as kept", x.count(4), 4);
        CHECKS.same("21 WEAR as kept", x.count(6), 2);
        CHECKS.same("21 DEEDS as kept, undone", x.undo(1), 1);
        CHECKS.same("21 kept on", x.on(2), 2);
        CHECKS.same("21 the other one", x.on(0), 0);
        CHECKS.same("21 all in it", x.count(3), 7);
        x.out(1);
        CHECKS.same("20 anew", x.keep(2), 1);
        x.undo(0);
        CHECKS.same("21 as kept last", x.on(2), 1);
        CHECKS.same("21 OUT as kept last", x.count(5), 2);
        CHECKS.same("20 kept DRAWERS", x.count(10), 2);
        x.undo(0);
        x.lose(0);
        CHECKS.same("21 other DEEDS since", x.on(2), 1);
        CHECKS.same("21 none of them stays", x.count(4), 0);
        CHECKS.same("21 OUT as kept, again", x.count(5), 2);
    }

    private static void promise21Refused() {
        DrawerGloves x = new DrawerGloves();
        CHECKS.same("20 no GLOVES", x.keep(0), STATE);
        CHECKS.same("20 no place", x.keep(3), BAD);
        CHECKS.same("20 no place below", x.keep(-1), BAD);
        CHECKS.same("21 no place", x.on(3), BAD);
        CHECKS.same("21 no place below", x.on(-1), BAD);
        CHECKS.finding("21 missing", x, x.on(1), NOTHING);
        x = Desk.with("d1 g000");
        x.out(0);
        CHECKS.same("20 GLOVES, all OUT", x.keep(1), 1);
        CHECKS.finding("21 missing beside one", x, x.on(0), NOTHING);
    }
}
