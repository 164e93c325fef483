/** Promises 29 to 32: what a GLOVE can be by a ROW of pairs. */
final class EdgesOfGuesses extends EdgePart {
    private static final String TWO = "d8 g305 g413";

    EdgesOfGuesses(Edges e) {
        super(e);
    }

    @Override
    void all() {
        promise29();
        promise29None();
        promise30();
        promise31();
        promise32();
        promise32None();
        String[] sizes = {"SIZE: not by pairs (a ROW without places is well);", "SIZE;", "SIZE;", "SIZE;"};
        String[] unlikes = {"UNLIKE: no GLOVE, that one; a number below 0 but NONE.", "UNLIKE.", "UNLIKE.", "UNLIKE."};
        for (int which = 0; which < 4; which++) {
            refused(which);
            size(which, sizes[which]);
            unlike(which, unlikes[which]);
            order(which);
        }
    }

    private static int call(DrawerGloves x, int which, int i, int r) {
        switch (which) {
            case 0: return x.sorts(i, r);
            case 1: return x.hands(i, r);
            case 2: return x.kinds(i, r);
            default: return x.test(i, r);
        }
    }

    private void told(DrawerGloves x, int which, int i, int due, int... pairs) {
        Desk.lay(x, 1, pairs);
        e.aside(x, due, new String[] {"sorts", "hands", "kinds"}[which] + "(" + i + ") by '" + Desk.row(x, 1) + "'",
            y -> call(y, which, i, 1));
    }

    private void promise29() {
        e.sentence(29, "SORTS (bits 0 .. 9) that a GLOVE can be of by these, all else as it is.");
        told(with(TWO), 0, 0, 1023);
        told(with("d8g000"), 0, 0, 1023);
        DrawerGloves x = with("d8 g009 g019 g919 g509");
        told(x, 0, 0, 1, 1, 18);
        told(x, 0, 0, 512, 2, 18);
        told(x, 0, 0, 512, 1, 0);
        told(x, 0, 0, 1, 2, 0);
        told(x, 0, 0, 16, 1, 10, 2, 8);
        told(x, 0, 0, 32, 1, 8, 2, 10);
        told(x, 0, 0, 1023, 3, NONE);
        told(x, 0, 0, 0, 1, NONE);
        told(x, 0, 0, 0, 3, 18);
        told(x, 0, 0, 0, 1, 17);
        told(x, 0, 0, 0, 1, TOP);
        told(x, 0, 0, 1, 1, 18, 1, 18, 1, 18);
        e.same("its SORT stays", Desk.of(x, 0, 1), 0);
        x = with("d8 g009 g019");
        Desk.wearOften(x, 0, 1, 3);
        told(x, 0, 0, 1, 1, 16);
        x.lose(0);
        x.out(1);
        told(x, 0, 0, 1, 1, 16);
        told(with("d8 t009 g919"), 0, 0, 1023, 1, 17);
        told(with("d8 t009 g919"), 0, 0, 0, 1, 16);
    }

    private void promise29None() {
        e.sentence(Edges.TERMS, "a ROW of pairs: another GLOVE, how GOOD the PAIR with it was, or NONE, that they made"
            + " none");
        told(with("d8 g009 g009"), 0, 0, 1023, 1, NONE);
        told(with("d8 g009 g009"), 0, 0, 0, 1, 18);
        told(with("d8 g000 g910"), 0, 0, 1023, 1, 0);
        told(with("d8 g000 g910"), 0, 0, 0, 1, NONE);
        int[] most = new int[40];
        for (int k = 0; k < 40; k += 2) {
            most[k] = 1;
            most[k + 1] = 18;
        }
        told(with("d8 g009 g019"), 0, 0, 1, most);
        most[39] = 16;
        told(with("d8 g009 g019"), 0, 0, 0, most);
    }

    private void promise30() {
        e.sentence(30, "HANDS (bits 0, 1) that it can be for by these.");
        told(with(TWO), 1, 0, 3);
        told(with(TWO), 1, 0, 1, 1, 6);
        told(with(TWO), 1, 1, 2, 0, 6);
        told(with(TWO), 1, 0, 2, 1, NONE);
        told(with(TWO), 1, 1, 1, 0, NONE);
        told(with(TWO), 1, 0, 0, 1, 5);
        told(with(TWO), 1, 0, 0, 1, 6, 1, NONE);
        told(with("d8 g305 e403"), 1, 0, 3, 1, 5);
        told(with("d8 g305 e403"), 1, 0, 0, 1, NONE);
        told(with("d8 t305 g403"), 1, 0, 3, 1, 7);
        told(with("d8 t305 g403"), 1, 0, 0, 1, NONE);
        DrawerGloves x = with("d8 g005 g015 g005");
        told(x, 1, 0, 1, 1, 10, 2, NONE);
        told(x, 1, 0, 2, 1, NONE, 2, 10);
        told(x, 1, 0, 0, 1, 10, 2, 10);
        told(x, 1, 0, 0, 1, NONE, 2, NONE);
        e.same("its HAND stays", Desk.of(x, 0, 2), 0);
    }

    private void promise31() {
        e.sentence(31, "KINDS (bits) that it can be of by these.");
        told(with(TWO), 2, 0, 63);
        told(with("d8t000"), 2, 0, 63);
        DrawerGloves x = with("d8 g005 g115 g005");
        told(x, 2, 0, 1 + 8, 1, 8);
        told(x, 2, 0, 2, 1, 10);
        told(x, 2, 0, 4, 1, 7);
        told(x, 2, 0, 16, 1, 11);
        told(x, 2, 0, 32, 1, 9);
        told(x, 2, 0, 0, 1, 12);
        told(x, 2, 0, 0, 1, 0);
        told(x, 2, 0, 0, 1, NONE);
        told(x, 2, 0, 1 + 2 + 8 + 16, 2, NONE);
        told(x, 2, 0, 4 + 32, 2, 9);
        told(x, 2, 0, 4, 2, 9, 1, 7);
        e.same("its KIND stays", Desk.of(x, 0, 0), 0);
        told(with("d8 e000 g010"), 2, 0, 1 + 4 + 8 + 32, 1, 0);
        x = with("d8 l005 g015");
        Desk.wearOften(x, 0, 1, 5);
        told(x, 2, 0, 16, 1, 11);
        x.wear(0, 1);
        told(x, 2, 0, 1 + 8 + 16, 1, 6);
        x.out(0);
        told(x, 2, 0, 1 + 8 + 16, 1, 6);
    }

    private void test(DrawerGloves x, int i, int due, int part) {
        e.aside(x, due, "test(" + i + ") by '" + Desk.row(x, 1) + "'", y -> y.test(i, 1));
        e.same("that part", x.asked(), part);
    }

    private void promise32() {
        e.sentence(32, "The other GLOVE (wherever it is) to try it with by which these KINDS are told apart best: the"
            + " greatest part of those as GOOD (or none) is least (the first); that part by asked().");
        DrawerGloves x = with("d8 g305 g307 g413 g413");
        Desk.lay(x, 1);
        test(x, 0, 2, 2);
        test(x, 2, 0, 2);
        test(x, 3, 0, 2);
        x.lose(2);
        test(x, 0, 2, 2);
        x.out(2);
        test(x, 0, 2, 2);
        x.out(3);
        x.lose(0);
        test(x, 0, 2, 2);
        Desk.lay(x, 1, 2, 6);
        test(x, 0, 1, 2);
        Desk.lay(x, 1, 2, 8);
        test(x, 0, 1, 1);
        Desk.lay(x, 1, 1, NONE);
        test(x, 0, 2, 2);
        x = with("d8 g005 g005");
        Desk.lay(x, 1);
        test(x, 0, 1, 4);
        x = with("d8 g000 g910");
        Desk.lay(x, 1);
        test(x, 0, 1, 6);
    }

    private void promise32None() {
        e.sentence(32, "NONE: there is no KIND, or no other GLOVE.");
        DrawerGloves x = with(TWO);
        x.glove(0, 3);
        Desk.lay(x, 1, 1, 99);
        e.refused(x, NONE, "no KIND", y -> y.test(0, 1));
        Desk.lay(x, 1, 1, 6, 1, NONE);
        e.refused(x, NONE, "no KIND by two that are at odds", y -> y.test(0, 1));
        x = with("d8 g305");
        x.row(1, 0);
        x.glove(0, 3);
        e.refused(x, NONE, "no other GLOVE", y -> y.test(0, 1));
        x = with(TWO);
        x.row(1, 0);
        x.out(1);
        x.lose(0);
        e.same("another one that is OUT", x.test(0, 1), 1);
    }

    private static DrawerGloves laid(int... pairs) {
        DrawerGloves x = with(TWO);
        Desk.lay(x, 5, pairs);
        return x;
    }

    private void bad(int which, DrawerGloves x, int i, int r) {
        e.refused(x, BAD, "GLOVE " + i + ", ROW " + r, y -> call(y, which, i, r));
    }

    private void finds(int which, int finding, int... pairs) {
        DrawerGloves x = laid(pairs);
        e.finds(x, finding, "by '" + Desk.row(x, 5) + "'", y -> call(y, which, 0, 5));
    }

    private void refused(int which) {
        e.sentence(29 + which, "BAD; NOTHING;");
        bad(which, laid(), 2, 5);
        bad(which, laid(), -1, 5);
        bad(which, laid(), TOP, 5);
        bad(which, laid(), BOTTOM, 5);
        bad(which, laid(), 0, 6);
        bad(which, laid(), 0, -1);
        bad(which, laid(), 0, TOP);
        bad(which, laid(), 0, BOTTOM);
        bad(which, bare(), 0, 0);
        e.finds(laid(), NOTHING, "ROW 0", y -> call(y, which, 0, 0));
        e.finds(laid(), NOTHING, "ROW 4", y -> call(y, which, 1, 4));
    }

    private void size(int which, String words) {
        e.sentence(29 + which, words);
        int[] due = {1023, 3, 63, 1};
        e.aside(laid(), due[which], "without places", y -> call(y, which, 0, 5));
        finds(which, SIZE, 1);
        finds(which, SIZE, 1, 6, 1);
        finds(which, SIZE, new int[39]);
    }

    private void unlike(int which, String words) {
        e.sentence(29 + which, words);
        finds(which, UNLIKE, 2, 6);
        finds(which, UNLIKE, -1, 6);
        finds(which, UNLIKE, NONE, 6);
        finds(which, UNLIKE, TOP, 6);
        finds(which, UNLIKE, BOTTOM, 6);
        finds(which, UNLIKE, 0, 6);
        finds(which, UNLIKE, 0, NONE);
        finds(which, UNLIKE, 1, -1);
        finds(which, UNLIKE, 1, -8);
        finds(which, UNLIKE, 1, -10);
        finds(which, UNLIKE, 1, BOTTOM);
        finds(which, UNLIKE, 1, 6, 1, -1);
        finds(which, UNLIKE, 1, 6, 0, 6);
        finds(which, UNLIKE, 1, 6, 2, 6);
        finds(which, UNLIKE, 1, 99, 1, -1);
        finds(which, UNLIKE, new int[40]);
    }

    private void order(int which) {
        e.sentence(29 + which, "(In this order.)");
        bad(which, laid(), 2, 0);
        bad(which, laid(1), 2, 5);
        bad(which, laid(1, -1), 2, 5);
        bad(which, laid(1, -1), 0, 6);
        finds(which, SIZE, 1, -1, 1);
        finds(which, SIZE, 0, 6, 1);
        finds(which, SIZE, 9, 9, 9);
        finds(which, SIZE, -1);
    }
}
