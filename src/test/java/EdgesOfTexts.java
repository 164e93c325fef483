/** Promises 8 to 11, and what the terms tell of TEXTS, FAULTS, DRAWERS. */
final class EdgesOfTexts extends EdgePart {
    private static final String EIGHT = "g000m019e100s219l300t419g900g919";

    EdgesOfTexts(Edges e) {
        super(e);
    }

    @Override
    void all() {
        promise08();
        promise08Refused();
        promise09();
        promise09Refused();
        termsBlanks();
        termsFirstItem();
        termsGloves();
        termsFault();
        termsEnd();
        promise10();
        promise11();
        promise11Anew();
        promise11Refused();
    }

    private static DrawerGloves written(String text) {
        DrawerGloves x = bare();
        Desk.write(x, 0, text);
        return x;
    }

    private void promise08() {
        e.sentence(8, "A TEXT is there with n blanks: n.");
        for (int t = 0; t <= 3; t++) {
            DrawerGloves x = bare();
            e.same("text(" + t + ", 0)", x.text(t, 0), 0);
            e.same("it is there", x.count(9), 1);
            e.same("without places", x.fault(t), 0);
            e.same("text(" + t + ", 1)", x.text(t, 1), 1);
            e.same("its blank", x.put(t, 0, 7), 1032);
            e.same("text(" + t + ", 60)", x.text(t, 60), 60);
            for (int i = 0; i < 60; i++) e.same("blank " + i, x.put(t, i, 7), 1032);
            e.same("anew", x.text(t, 60), 60);
            for (int i = 0; i < 60; i++) e.same("blank anew " + i, x.put(t, i, 7), 1032);
            e.same("one TEXT", x.count(9), 1);
        }
        DrawerGloves x = written("d1g000");
        x.text(0, 2);
        e.same("anew, fewer", x.fault(0), 2);
        x.text(0, 6);
        e.same("what it had ahead is gone", x.fault(0), 6);
        x = written("d1g000");
        x.text(1, 6);
        e.same("another one stays", x.fault(0), NONE);
    }

    private void promise08Refused() {
        e.sentence(8, "BAD: also n above 60");
        e.refused(written("d1"), BAD, "text(0, 61)", x -> x.text(0, 61));
        e.refused(written("d1"), BAD, "text(0, TOP)", x -> x.text(0, TOP));
        e.refused(written("d1"), BAD, "text(3, 61), a missing one", x -> x.text(3, 61));
        e.refused(bare(), BAD, "text(4, 0)", x -> x.text(4, 0));
        e.refused(bare(), BAD, "text(-1, 0)", x -> x.text(-1, 0));
        e.refused(bare(), BAD, "text(TOP, 0)", x -> x.text(TOP, 0));
        e.refused(bare(), BAD, "text(BOTTOM, 0)", x -> x.text(BOTTOM, 0));
        e.sentence(8, "SIZE: below 0.");
        e.finds(written("d1"), SIZE, "text(0, -1)", x -> x.text(0, -1));
        e.finds(written("d1"), SIZE, "text(3, -1), a missing one", x -> x.text(3, -1));
        e.finds(written("d1"), SIZE, "text(0, BOTTOM)", x -> x.text(0, BOTTOM));
        e.refused(bare(), BAD, "text(4, -1): BAD is ahead", x -> x.text(4, -1));
        e.refused(bare(), BAD, "text(-1, -1): BAD is ahead", x -> x.text(-1, -1));
    }

    private void put(int v, int due) {
        DrawerGloves x = bare();
        x.text(0, 3);
        e.same("put(0, 1, " + v + ")", x.put(0, 1, v), 1032);
        e.same("what it was after " + v, x.put(0, 1, 0), 1000 + due);
        e.same("the one ahead of it", x.put(0, 0, 0), 1032);
        e.same("the one behind it", x.put(0, 2, 0), 1032);
    }

    private void promise09() {
        e.sentence(9, "Byte i of a TEXT is v, cut to a byte (-128 .. 127): what it was, and 1000 more.");
        for (int v = -128; v <= 127; v++) put(v, v);
        put(128, -128);
        put(129, -127);
        put(255, -1);
        put(256, 0);
        put(-129, 127);
        put(-256, 0);
        put(-257, -1);
        put(65536 + 100, 100);
        put(TOP, -1);
        put(BOTTOM, 0);
        put(BOTTOM + 128, -128);
        DrawerGloves x = bare();
        x.text(3, 60);
        e.same("the first place", x.put(3, 0, 1), 1032);
        e.same("the last place", x.put(3, 59, 2), 1032);
        e.same("the first place was", x.put(3, 0, 0), 1001);
        e.same("the last place was", x.put(3, 59, 0), 1002);
    }

    private void promise09Refused() {
        e.sentence(9, "BAD; NOTHING; BEYOND.");
        e.refused(written("d1"), BAD, "put(4, 0, 1)", x -> x.put(4, 0, 1));
        e.refused(written("d1"), BAD, "put(-1, 0, 1)", x -> x.put(-1, 0, 1));
        e.finds(written("d1"), NOTHING, "put(3, 0, 1)", x -> x.put(3, 0, 1));
        e.finds(written("d1"), NOTHING, "put(3, -1, 1): NOTHING is ahead", x -> x.put(3, -1, 1));
        e.finds(written("d1"), BEYOND, "put(0, -1, 1)", x -> x.put(0, -1, 1));
        e.finds(written("d1"), BEYOND, "put(0, 2, 1)", x -> x.put(0, 2, 1));
        e.finds(written(" ".repeat(60)), BEYOND, "put(0, 60, 1) of 60", x -> x.put(0, 60, 1));
        e.finds(written(""), BEYOND, "put(0, 0, 1) of none", x -> x.put(0, 0, 1));
        e.finds(written("d1"), BEYOND, "put(0, TOP, 1)", x -> x.put(0, TOP, 1));
        e.finds(written("d1"), BEYOND, "put(0, BOTTOM, 1)", x -> x.put(0, BOTTOM, 1));
    }

    private void fault(String text, int due) {
        e.aside(written(text), due, "fault of '" + text + "'", x -> x.fault(0));
    }

    private void termsBlanks() {
        e.sentence(Edges.TERMS, "blanks (32) ahead, between, behind as many as wanted, none within items.");
        fault("d1g000", NONE);
        fault(" d1g000", NONE);
        fault("d1 g000", NONE);
        fault("d1g000 ", NONE);
        fault("d1g000 g000", NONE);
        fault(" ".repeat(54) + "d1g000", NONE);
        fault("d1" + " ".repeat(54) + "g000", NONE);
        fault("d1g000" + " ".repeat(54), NONE);
        fault("d1g000" + " ".repeat(50) + "g000", NONE);
        fault("d 1g000", 1);
        fault("d1g 000", 3);
        fault("d1g0 00", 4);
        fault("d1g00 0", 5);
        fault("d1g000m 000", 7);
        fault("d1g000m00 0", 9);
        for (char other : new char[] {0, 9, 10, 13, 31, 33, 160}) {
            fault(other + "d1g000", 0);
            fault("d1" + other + "g000", 2);
            fault("d1g000" + other, 6);
        }
    }

    /** Puts each byte to one place of a TEXT that is well otherwise. */
    private void onlyThese(String text, int place, String fine) {
        for (int b = -128; b <= 127; b++) {
            if (b == ' ') continue;
            DrawerGloves x = written(text);
            x.put(0, place, b);
            e.same("fault of '" + text + "' with " + b + " at " + place, x.fault(0),
                b >= 0 && fine.indexOf(b) >= 0 ? NONE : place);
        }
    }

    private void termsFirstItem() {
        e.sentence(Edges.TERMS, "The first item is d (100), the ROOM (1 .. 8, one figure; more GLOVES may lie in it at"
            + " first).");
        onlyThese("d1g000", 0, "d");
        onlyThese("d1g000", 1, "12345678");
        onlyThese("  d8 g000 ", 2, "d");
        onlyThese("  d8 g000 ", 3, "12345678");
        fault("d0g000", 1);
        fault("d9g000", 1);
        fault("d10g000", 2);
        fault("d88g000", 2);
        fault("g000", 0);
        fault("g000d1", 0);
        fault("d1d1g000", 2);
        fault("d1g000d1", 6);
        for (int room = 1; room <= 8; room++) {
            DrawerGloves x = with("d" + room + EIGHT);
            e.same("ROOM " + room, x.count(1), room);
            e.same("all GLOVES lie in it by ROOM " + room, x.count(3), 255);
        }
    }

    private void termsGloves() {
        e.sentence(Edges.TERMS, "Then GLOVES (1 to 8; 0, 1, .. as they come): a letter, the SORT (0 .. 9), the HAND (0"
            + " left, 1 right), how WARM (0 .. 9), one figure each.");
        onlyThese("d1g000", 2, "gmeslt");
        onlyThese("d1g000", 3, "0123456789");
        onlyThese("d1g000", 4, "01");
        onlyThese("d1g000", 5, "0123456789");
        onlyThese("d8" + EIGHT, 30, "gmeslt");
        onlyThese("d8" + EIGHT, 31, "0123456789");
        onlyThese("d8" + EIGHT, 32, "01");
        onlyThese("d8" + EIGHT, 33, "0123456789");
        for (int size = 1; size <= 8; size++) {
            String text = "d1" + EIGHT.substring(0, 4 * size);
            fault(text, NONE);
            e.same("GLOVES of '" + text + "'", written(text).drawer(0), size);
        }
        DrawerGloves x = with("d8" + EIGHT);
        int[][] due = {{0, 0, 0, 0}, {1, 0, 1, 9}, {2, 1, 0, 0}, {3, 2, 1, 9}, {4, 3, 0, 0}, {5, 4, 1, 9},
            {0, 9, 0, 0}, {0, 9, 1, 9}};
        for (int i = 0; i < 8; i++) {
            for (int what = 0; what < 4; what++) {
                e.same("glove(" + i + ", " + what + ")", Desk.of(x, i, what), due[i][what]);
            }
        }
        e.sentence(Edges.TERMS, "KINDS of GLOVES and letters: 0 GLOVE (g, 103), 1 MITTEN (m, 109; a GLOVE), 2 EITHER"
            + " (e, 101; a GLOVE), 3 STRING (s, 115; a GLOVE), 4 LINED (l, 108; a MITTEN), 5 STRETCH (t, 116; an EITHER"
            + " one).");
        int[] letters = {103, 109, 101, 115, 108, 116};
        for (int kind = 0; kind < letters.length; kind++) {
            e.same("KIND of " + letters[kind], Desk.of(with("d1" + (char) letters[kind] + "000"), 0, 0), kind);
        }
    }

    private void termsFault() {
        e.sentence(Edges.TERMS, "A FAULT is the first place at which it can't go on so (a letter, a figure that is none"
            + " such, a ninth GLOVE: its place;");
        fault("x1x000", 0);
        fault("dxx000", 1);
        fault("d1xx00", 2);
        fault("d1gxx0", 3);
        fault("d1g0xx", 4);
        fault("d1g00x", 5);
        fault("d1g000xx", 6);
        fault("d1g0000", 6);
        fault("d1g000g0x0", 8);
        fault("d1g000 g02", 9);
        fault("d8" + EIGHT + "g000", 34);
        fault("d8" + EIGHT + "   g000", 37);
        fault("d8" + EIGHT + "g", 34);
        fault("d8" + EIGHT + "x", 34);
        fault("d8" + EIGHT + " d", 35);
        fault("d8" + EIGHT, NONE);
        fault("d8" + EIGHT + " ".repeat(26), NONE);
        fault("d8" + EIGHT + " ".repeat(25) + "g", 59);
        fault("d8" + EIGHT.substring(4) + " g0x0", 33);
    }

    private void termsEnd() {
        e.sentence(Edges.TERMS, "the TEXT's size, if its end comes too early, or there is no GLOVE, or there are blanks"
            + " alone).");
        String text = "  d8 " + EIGHT;
        for (int size = 0; size <= 5; size++) fault(text.substring(0, size), size);
        for (int size = 6; size <= text.length(); size++) {
            fault(text.substring(0, size), (size - 5) % 4 == 0 ? NONE : size);
        }
        fault("d1 ", 3);
        fault("d1" + " ".repeat(58), 60);
        fault(" ".repeat(57) + "d1g", 60);
        for (int size = 0; size <= 60; size++) {
            DrawerGloves x = bare();
            x.text(0, size);
            e.same("blanks alone, " + size, x.fault(0), size);
        }
    }

    private void promise10() {
        e.sentence(10, "A FAULT of a TEXT; NONE: there is none.");
        fault("d1", 2);
        fault("d1g000", NONE);
        DrawerGloves x = with("d3g305m417");
        Desk.write(x, 1, "d1s000");
        e.aside(x, NONE, "of another TEXT", y -> y.fault(1));
        e.same("the GLOVES stay", Desk.of(x, 0, 1), 3);
        e.same("the ROOM stays", x.count(1), 3);
        e.sentence(10, "BAD; NOTHING.");
        e.refused(written("d1"), BAD, "fault(4)", y -> y.fault(4));
        e.refused(written("d1"), BAD, "fault(-1)", y -> y.fault(-1));
        e.refused(written("d1"), BAD, "fault(TOP)", y -> y.fault(TOP));
        e.refused(written("d1"), BAD, "fault(BOTTOM)", y -> y.fault(BOTTOM));
        e.finds(written("d1"), NOTHING, "fault(1)", y -> y.fault(1));
    }

    private void promise11() {
        e.sentence(11, "A DRAWER by a TEXT");
        for (int t = 0; t <= 3; t++) {
            DrawerGloves x = bare();
            Desk.write(x, t, " d4 m417 ");
            e.same("drawer(" + t + ")", x.drawer(t), 1);
            e.same("its ROOM", x.count(1), 4);
            x.text(t, 3);
            e.same("the TEXT is no more wanted", Desk.of(x, 0, 3), 7);
        }
        e.sentence(11, "how many GLOVES.");
        e.same("one", written("d8g000").drawer(0), 1);
        e.same("eight", written("d1" + EIGHT).drawer(0), 8);
    }

    private static DrawerGloves lived() {
        DrawerGloves x = with("d2 g305 m417 g205");
        x.wear(0, 1);
        x.lose(0);
        x.out(2);
        x.keep(0);
        x.keep(1);
        x.keep(2);
        return x;
    }

    private void promise11Anew() {
        e.sentence(11, "(anew: all in it, no WEAR, no DEEDS; kept DRAWERS go):");
        DrawerGloves x = lived();
        e.same("by the same TEXT", x.drawer(0), 3);
        e.same("all in it, more than its ROOM", x.count(3), 7);
        e.same("none LOST", x.count(4), 0);
        e.same("none OUT", x.count(5), 0);
        e.same("no WEAR", x.count(6), 0);
        e.same("no DEEDS", x.count(2), 0);
        e.same("no kept DRAWERS", x.count(10), 0);
        for (int k = 0; k <= 2; k++) {
            int place = k;
            e.finds(x, NOTHING, "on(" + k + ")", y -> y.on(place));
        }
        x = lived();
        Desk.write(x, 1, "d1l909");
        e.same("fewer GLOVES", x.drawer(1), 1);
        e.same("in it", x.count(3), 1);
        e.refused(x, BAD, "one that it had", y -> y.glove(1, 0));
        e.refused(x, BAD, "a set that it had", y -> y.good(2));
        Desk.write(x, 1, "d1" + EIGHT);
        e.same("more GLOVES", x.drawer(1), 8);
        e.same("all in it", x.count(3), 255);
    }

    private void promise11Refused() {
        e.sentence(11, "BAD; NOTHING; STATE: a FAULT.");
        e.refused(lived(), BAD, "drawer(4)", x -> x.drawer(4));
        e.refused(lived(), BAD, "drawer(-1)", x -> x.drawer(-1));
        e.finds(lived(), NOTHING, "drawer(3)", x -> x.drawer(3));
        for (String wrong : new String[] {"", " ", "d1", "d1x", "d0g000", "d8" + EIGHT + "g000", "d1g305m41"}) {
            DrawerGloves x = lived();
            Desk.write(x, 1, wrong);
            e.refused(x, STATE, "drawer of '" + wrong + "'", y -> y.drawer(1));
            e.same("kept ones stay", x.on(0), 3);
        }
        e.sentence(11, "(STATE behind NOTHING.)");
        e.finds(bare(), NOTHING, "drawer(0) of none", x -> x.drawer(0));
        e.refused(written("d"), STATE, "drawer(0) of a FAULT", x -> x.drawer(0));
    }
}
