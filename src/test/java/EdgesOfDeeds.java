/** Promises 15 to 21, and what the terms tell of DEEDS. */
final class EdgesOfDeeds extends EdgePart {
    EdgesOfDeeds(Edges e) {
        super(e);
    }

    @Override
    void all() {
        termsDeeds();
        termsFull();
        promise15();
        promise15Order();
        promise16();
        promise16Order();
        promise17();
        promise17Order();
        promise18();
        promise18Order();
        promise19();
        promise19Refused();
        promise20();
        promise21();
        promise21Full();
    }

    /** Two that are WORN n times, beside a left GLOVE, a STRING, one that is LOST, one OUT: n + 2 DEEDS. */
    private static DrawerGloves busy(int room, int n) {
        DrawerGloves x = with("d" + room + " g309 g319 g309 s309 g309 g309");
        x.lose(4);
        x.out(5);
        Desk.wearOften(x, 0, 1, n);
        return x;
    }

    private void places(DrawerGloves x, String when, int inside, int lost, int out) {
        e.same("in the drawer " + when, x.count(3), inside);
        e.same("LOST " + when, x.count(4), lost);
        e.same("OUT " + when, x.count(5), out);
    }

    private void termsDeeds() {
        e.sentence(Edges.TERMS, "All GLOVES are in the drawer at first, WEAR is 0.");
        DrawerGloves x = with("d1g000s110t205");
        places(x, "at first", 7, 0, 0);
        for (int i = 0; i < 3; i++) e.same("WEAR of " + i, Desk.of(x, i, 4), 0);
        e.sentence(Edges.TERMS, "What is done: a PAIR of the drawer is WORN a day (WEAR of both 1 more), a GLOVE is LOST"
            + " (not a STRING), comes BACK (one that is LOST), is thrown OUT (it comes back never).");
        x = with("d3g005g015s005");
        e.same("WORN", x.wear(0, 1), 10);
        e.same("WEAR of the one", Desk.of(x, 0, 4), 1);
        e.same("WEAR of the other", Desk.of(x, 1, 4), 1);
        e.same("WEAR of a third", Desk.of(x, 2, 4), 0);
        e.same("LOST", x.lose(0), 2);
        e.refused(x, STATE, "a STRING is LOST", y -> y.lose(2));
        e.refused(x, STATE, "one comes BACK that is in the drawer", y -> y.back(1));
        e.same("BACK", x.back(0), 3);
        e.same("OUT", x.out(0), 2);
        e.refused(x, STATE, "one comes BACK that is OUT", y -> y.back(0));
        e.refused(x, STATE, "one is LOST that is OUT", y -> y.lose(0));
        e.refused(x, STATE, "one is WORN that is OUT", y -> y.wear(0, 1));
        places(x, "at last", 6, 0, 1);
    }

    private void termsFull() {
        e.sentence(Edges.TERMS, "These are DEEDS (40 at most).");
        DrawerGloves x = busy(8, 37);
        e.same("39", x.count(2), 39);
        e.same("the 40th", x.wear(0, 1), 0);
        e.same("40", x.count(2), 40);
        e.refused(x, FULL, "wear()", y -> y.wear(0, 1));
        e.refused(x, FULL, "lose()", y -> y.lose(0));
        e.refused(x, FULL, "back()", y -> y.back(4));
        e.refused(x, FULL, "out()", y -> y.out(0));
        e.refused(x, FULL, "lots()", y -> y.lots(1, 1));
        e.same("room for one more", x.undo(39), 1);
        e.same("another 40th", x.out(0), 3);
        e.refused(x, FULL, "out() then", y -> y.out(1));
    }

    private void promise15() {
        e.sentence(15, "A PAIR is WORN: how GOOD it was.");
        DrawerGloves x = with("d8l301g311");
        int[] due = {5, 5, 5, 3, 3, 3, 0, 0};
        for (int day = 0; day < due.length; day++) {
            e.same("day " + day, day % 2 == 0 ? x.wear(0, 1) : x.wear(1, 0), due[day]);
            e.same("DEEDS by day " + day, x.count(2), day + 1);
            e.same("WEAR by day " + day, x.count(6), 2 * day + 2);
        }
        e.sentence(15, "BAD: also alike;");
        e.refused(busy(8, 1), BAD, "wear(0, 0)", y -> y.wear(0, 0));
        e.refused(with("d8e005e005"), BAD, "wear(1, 1) of an EITHER one", y -> y.wear(1, 1));
        e.refused(busy(8, 1), BAD, "wear(0, 6)", y -> y.wear(0, 6));
        e.refused(busy(8, 1), BAD, "wear(6, 0)", y -> y.wear(6, 0));
        e.refused(busy(8, 1), BAD, "wear(0, -1)", y -> y.wear(0, -1));
        e.refused(busy(8, 1), BAD, "wear(-1, 0)", y -> y.wear(-1, 0));
        e.refused(busy(8, 1), BAD, "wear(TOP, BOTTOM)", y -> y.wear(TOP, BOTTOM));
        e.refused(bare(), BAD, "wear(0, 1) of none", y -> y.wear(0, 1));
        e.sentence(15, "STATE: one is not in the drawer, they make none;");
        e.refused(busy(8, 1), STATE, "LOST behind", y -> y.wear(1, 4));
        e.refused(busy(8, 1), STATE, "LOST ahead", y -> y.wear(4, 1));
        e.refused(busy(8, 1), STATE, "OUT behind", y -> y.wear(1, 5));
        e.refused(busy(8, 1), STATE, "OUT ahead", y -> y.wear(5, 1));
        e.refused(busy(8, 1), STATE, "both", y -> y.wear(4, 5));
        e.refused(busy(8, 1), STATE, "two left ones", y -> y.wear(0, 2));
        e.refused(busy(8, 1), STATE, "two left ones, a STRING", y -> y.wear(3, 0));
        e.same("a PAIR as GOOD as nothing is one", with("d8g000g910").wear(0, 1), 0);
    }

    private void promise15Order() {
        e.sentence(15, "FULL: 40 DEEDS. (FULL last.)");
        e.same("the 39th", busy(8, 36).wear(0, 1), 0);
        e.same("the 40th", busy(8, 37).wear(0, 1), 0);
        e.refused(busy(8, 38), FULL, "the 41st", x -> x.wear(0, 1));
        e.refused(busy(8, 38), BAD, "BAD, FULL", x -> x.wear(0, 0));
        e.refused(busy(8, 38), BAD, "BAD of no GLOVE, FULL", x -> x.wear(0, 6));
        e.refused(busy(8, 38), STATE, "STATE of a LOST one, FULL", x -> x.wear(1, 4));
        e.refused(busy(8, 38), STATE, "STATE of no PAIR, FULL", x -> x.wear(0, 2));
    }

    private void promise16() {
        e.sentence(16, "A GLOVE is LOST: how many are in the drawer.");
        DrawerGloves x = with("d1 g000 m010 e000 l010 t000 s000 g000 g010");
        int[] which = {7, 0, 1, 2, 3, 4, 6};
        for (int k = 0; k < which.length; k++) e.same("lose(" + which[k] + ")", x.lose(which[k]), 7 - k);
        places(x, "then", 32, 223, 0);
        e.same("the only one", with("d1g000").lose(0), 0);
        e.sentence(16, "STATE: it is not in it, it is a STRING;");
        e.refused(busy(8, 1), STATE, "one that is LOST", y -> y.lose(4));
        e.refused(busy(8, 1), STATE, "one that is OUT", y -> y.lose(5));
        e.refused(busy(8, 1), STATE, "a STRING", y -> y.lose(3));
        DrawerGloves y = with("d8s000");
        y.out(0);
        e.refused(y, STATE, "a STRING that is OUT", z -> z.lose(0));
    }

    private void promise16Order() {
        e.sentence(16, "BAD;");
        e.refused(busy(8, 1), BAD, "lose(6)", x -> x.lose(6));
        e.refused(busy(8, 1), BAD, "lose(-1)", x -> x.lose(-1));
        e.refused(busy(8, 1), BAD, "lose(TOP)", x -> x.lose(TOP));
        e.refused(busy(8, 1), BAD, "lose(BOTTOM)", x -> x.lose(BOTTOM));
        e.refused(bare(), BAD, "lose(0) of none", x -> x.lose(0));
        e.sentence(16, "FULL. (FULL last.)");
        e.same("the 40th", busy(8, 37).lose(0), 3);
        e.refused(busy(8, 38), FULL, "the 41st", x -> x.lose(0));
        e.refused(busy(8, 38), BAD, "BAD, FULL", x -> x.lose(6));
        e.refused(busy(8, 38), STATE, "STATE of a LOST one, FULL", x -> x.lose(4));
        e.refused(busy(8, 38), STATE, "STATE of an OUT one, FULL", x -> x.lose(5));
        e.refused(busy(8, 38), STATE, "STATE of a STRING, FULL", x -> x.lose(3));
    }

    private void promise17() {
        e.sentence(17, "A GLOVE comes BACK: how many are in the drawer.");
        DrawerGloves x = with("d8" + "g000".repeat(8));
        for (int i = 0; i < 8; i++) x.lose(i);
        for (int i = 7; i >= 0; i--) e.same("back(" + i + ")", x.back(i), 8 - i);
        places(x, "then", 255, 0, 0);
        x = with("d2g009g019");
        Desk.wearOften(x, 0, 1, 5);
        x.lose(0);
        e.same("a worn one", x.back(0), 2);
        e.same("its WEAR", Desk.of(x, 0, 4), 5);
        e.sentence(17, "STATE: it is not LOST;");
        e.refused(busy(8, 1), STATE, "in the drawer", y -> y.back(0));
        e.refused(busy(8, 1), STATE, "OUT", y -> y.back(5));
        DrawerGloves thrown = with("d8g000g010");
        thrown.lose(0);
        thrown.out(0);
        e.refused(thrown, STATE, "LOST, then OUT", y -> y.back(0));
        e.sentence(17, "SPENT: there is no ROOM;");
        e.same("as much ROOM as is wanted", busy(5, 1).back(4), 5);
        e.refused(busy(4, 1), SPENT, "as many as ROOM", y -> y.back(4));
        e.refused(busy(3, 1), SPENT, "more than ROOM", y -> y.back(4));
        e.refused(busy(1, 1), SPENT, "far more than ROOM", y -> y.back(4));
        DrawerGloves one = with("d1g000g010");
        one.lose(0);
        e.refused(one, SPENT, "ROOM for the other alone", y -> y.back(0));
        one.lose(1);
        e.same("none but it", one.back(0), 1);
        e.refused(one, SPENT, "then the other one", y -> y.back(1));
        one.out(0);
        e.same("the other one by ROOM of one that is OUT", one.back(1), 1);
    }

    private void promise17Order() {
        e.sentence(17, "BAD;");
        e.refused(busy(8, 1), BAD, "back(6)", x -> x.back(6));
        e.refused(busy(8, 1), BAD, "back(-1)", x -> x.back(-1));
        e.refused(busy(8, 1), BAD, "back(TOP)", x -> x.back(TOP));
        e.refused(busy(8, 1), BAD, "back(BOTTOM)", x -> x.back(BOTTOM));
        e.refused(bare(), BAD, "back(0) of none", x -> x.back(0));
        e.sentence(17, "FULL. (FULL last.)");
        e.same("the 40th", busy(8, 37).back(4), 5);
        e.refused(busy(8, 38), FULL, "the 41st", x -> x.back(4));
        e.refused(busy(1, 38), BAD, "BAD, FULL", x -> x.back(6));
        e.refused(busy(1, 38), STATE, "STATE of one in the drawer, SPENT, FULL", x -> x.back(0));
        e.refused(busy(1, 38), STATE, "STATE of an OUT one, SPENT, FULL", x -> x.back(5));
        e.refused(busy(1, 1), STATE, "STATE, SPENT", x -> x.back(0));
        e.refused(busy(4, 38), SPENT, "SPENT, FULL", x -> x.back(4));
    }

    private void promise18() {
        e.sentence(18, "A GLOVE is thrown OUT: how many are in the drawer.");
        DrawerGloves x = with("d1 g000 m010 e000 l010 t000 s000 g000 g010");
        for (int i = 0; i < 8; i++) e.same("out(" + i + ")", x.out(i), 7 - i);
        places(x, "then", 0, 0, 255);
        x = busy(8, 1);
        e.same("one that is LOST", x.out(4), 4);
        places(x, "after one that was LOST", 15, 0, 48);
        e.same("the only one", with("d1g000").out(0), 0);
        e.sentence(18, "STATE: it is OUT;");
        e.refused(busy(8, 1), STATE, "twice", y -> y.out(5));
        e.refused(x, STATE, "twice, one that was LOST", y -> y.out(4));
    }

    private void promise18Order() {
        e.sentence(18, "BAD;");
        e.refused(busy(8, 1), BAD, "out(6)", x -> x.out(6));
        e.refused(busy(8, 1), BAD, "out(-1)", x -> x.out(-1));
        e.refused(busy(8, 1), BAD, "out(TOP)", x -> x.out(TOP));
        e.refused(busy(8, 1), BAD, "out(BOTTOM)", x -> x.out(BOTTOM));
        e.refused(bare(), BAD, "out(0) of none", x -> x.out(0));
        e.sentence(18, "FULL. (FULL last.)");
        e.same("the 40th", busy(8, 37).out(0), 3);
        e.refused(busy(8, 38), FULL, "the 41st", x -> x.out(0));
        e.refused(busy(8, 38), FULL, "the 41st, a LOST one", x -> x.out(4));
        e.refused(busy(8, 38), BAD, "BAD, FULL", x -> x.out(6));
        e.refused(busy(8, 38), STATE, "STATE, FULL", x -> x.out(5));
    }

    private void promise19() {
        e.sentence(19, "DEEDS from number n on (n 0 to how many there are: then 0) are undone: how many.");
        for (int n = 0; n <= 40; n++) {
            DrawerGloves x = busy(8, 38);
            e.same("undo(" + n + ") of 40", x.undo(n), 40 - n);
            e.same("DEEDS after undo(" + n + ")", x.count(2), n);
            e.same("WEAR after undo(" + n + ")", x.count(6), n < 2 ? 0 : 2 * n - 4);
            places(x, "after undo(" + n + ")", n == 0 ? 63 : n == 1 ? 47 : 15, n == 0 ? 0 : 16, n < 2 ? 0 : 32);
        }
        e.aside(bare(), 0, "undo(0) without GLOVES", y -> y.undo(0));
        e.aside(with("d8g000"), 0, "undo(0) without DEEDS", y -> y.undo(0));
        e.aside(busy(8, 5), 0, "undo(7) of 7", y -> y.undo(7));
        DrawerGloves x = busy(8, 3);
        x.back(4);
        x.lose(0);
        e.same("one of two", x.undo(6), 1);
        places(x, "after a loss undone", 31, 0, 32);
        e.same("the other one", x.undo(5), 1);
        places(x, "after what came BACK undone", 15, 16, 32);
        e.same("what was OUT", x.undo(1), 4);
        places(x, "after OUT undone", 47, 16, 0);
        x = with("d8" + "g009".repeat(4) + "g019".repeat(4));
        for (int i = 0; i < 4; i++) Desk.wearOften(x, i, 7 - i, i + 1);
        x.wear(6, 2);
        e.same("the last one of all", x.undo(10), 1);
        for (int i = 0; i < 8; i++) e.same("WEAR of " + i, Desk.of(x, i, 4), i < 4 ? i + 1 : 8 - i);
        e.same("down to one of the second PAIR", x.undo(2), 8);
        for (int i = 0; i < 8; i++) e.same("WEAR then of " + i, Desk.of(x, i, 4), i < 2 || i > 5 ? 1 : 0);
        x = with("d1s000");
        x.lots(3, 1);
        e.same("LOTS that did nothing", x.undo(1), 2);
        e.same("are DEEDS", x.count(2), 1);
    }

    private void promise19Refused() {
        e.sentence(19, "BAD.");
        e.refused(bare(), BAD, "undo(1) without GLOVES", x -> x.undo(1));
        e.refused(with("d8g000"), BAD, "undo(1) without DEEDS", x -> x.undo(1));
        e.refused(with("d8g000"), BAD, "undo(-1)", x -> x.undo(-1));
        e.refused(busy(8, 5), BAD, "undo(8) of 7", x -> x.undo(8));
        e.refused(busy(8, 38), BAD, "undo(41) of 40", x -> x.undo(41));
        e.refused(busy(8, 5), BAD, "undo(TOP)", x -> x.undo(TOP));
        e.refused(busy(8, 5), BAD, "undo(BOTTOM)", x -> x.undo(BOTTOM));
        DrawerGloves x = busy(8, 5);
        x.undo(3);
        e.refused(x, BAD, "undo(4) of what was undone", y -> y.undo(4));
    }

    private void promise20() {
        e.sentence(20, "The DRAWER (as it is, DEEDS) is kept in a place (0 .. 2): how many DEEDS.");
        for (int k = 0; k <= 2; k++) {
            e.same("none, in " + k, with("d8g000").keep(k), 0);
            e.same("40, in " + k, busy(8, 38).keep(k), 40);
            DrawerGloves x = busy(8, 5);
            e.same("7, in " + k, x.keep(k), 7);
            e.same("one is kept", x.count(10), 1);
            e.same("again", x.keep(k), 7);
            e.same("still one", x.count(10), 1);
            x.wear(0, 1);
            e.same("anew", x.keep(k), 8);
            x.undo(0);
            e.same("on as anew", x.on(k), 8);
        }
        e.sentence(20, "BAD; STATE: no GLOVES.");
        e.refused(busy(8, 1), BAD, "keep(3)", x -> x.keep(3));
        e.refused(busy(8, 1), BAD, "keep(-1)", x -> x.keep(-1));
        e.refused(busy(8, 1), BAD, "keep(TOP)", x -> x.keep(TOP));
        e.refused(busy(8, 1), BAD, "keep(BOTTOM)", x -> x.keep(BOTTOM));
        e.refused(bare(), STATE, "keep(0) of none", x -> x.keep(0));
        e.refused(bare(), STATE, "keep(2) of none", x -> x.keep(2));
        e.refused(bare(), BAD, "keep(3) of none: BAD is ahead", x -> x.keep(3));
        e.refused(bare(), BAD, "keep(-1) of none: BAD is ahead", x -> x.keep(-1));
        DrawerGloves x = with("d8g000");
        x.out(0);
        e.same("GLOVES, but none in the drawer", x.keep(0), 1);
    }

    private void promise21() {
        e.sentence(21, "The DRAWER is as it was kept: how many DEEDS.");
        DrawerGloves x = busy(8, 5);
        long asKept = x.count(3) + 1000L * x.count(4) + 1000000L * x.count(5);
        x.keep(0);
        x.keep(1);
        x.undo(0);
        x.keep(2);
        x.lots(20, 5);
        e.same("on(1)", x.on(1), 7);
        e.same("all as kept", x.count(3) + 1000L * x.count(4) + 1000000L * x.count(5), asKept);
        e.same("WEAR as kept", x.count(6), 10);
        e.same("DEEDS as kept", x.count(2), 7);
        e.same("on(2)", x.on(2), 0);
        places(x, "by on(2)", 63, 0, 0);
        e.same("WEAR by on(2)", x.count(6), 0);
        e.same("on(0), kept still", x.on(0), 7);
        e.same("undone from there", x.undo(2), 5);
        places(x, "as after the first two", 15, 16, 32);
        e.same("kept ones", x.count(10), 3);
        e.sentence(21, "BAD; NOTHING.");
        e.refused(busy(8, 1), BAD, "on(3)", y -> y.on(3));
        e.refused(busy(8, 1), BAD, "on(-1)", y -> y.on(-1));
        e.refused(busy(8, 1), BAD, "on(TOP)", y -> y.on(TOP));
        e.refused(busy(8, 1), BAD, "on(BOTTOM)", y -> y.on(BOTTOM));
        e.finds(busy(8, 1), NOTHING, "on(0)", y -> y.on(0));
        e.finds(busy(8, 1), NOTHING, "on(2)", y -> y.on(2));
        e.finds(bare(), NOTHING, "on(0) without GLOVES", y -> y.on(0));
        DrawerGloves one = busy(8, 1);
        one.keep(1);
        e.finds(one, NOTHING, "on(0) beside one", y -> y.on(0));
        e.finds(one, NOTHING, "on(2) beside one", y -> y.on(2));
    }

    private void promise21Full() {
        e.sentence(21, "The DRAWER is as it was kept");
        DrawerGloves x = busy(8, 38);
        x.keep(0);
        x.undo(0);
        e.same("room for DEEDS", x.wear(0, 1), 18);
        e.same("on(0)", x.on(0), 40);
        e.refused(x, FULL, "no more", y -> y.wear(0, 1));
        x = busy(8, 1);
        x.keep(0);
        Desk.wearOften(x, 0, 1, 37);
        e.refused(x, FULL, "no more by now", y -> y.wear(0, 1));
        e.same("on(0) of few", x.on(0), 3);
        e.same("room for more", x.wear(0, 1), 18);
        e.same("what was kept stays", x.on(0), 3);
    }
}
