/** Promises 1 to 7: ROWS. */
final class EdgesOfRows extends EdgePart {
    EdgesOfRows(Edges e) {
        super(e);
    }

    @Override
    void all() {
        promise01();
        promise02();
        promise02Refused();
        promise03();
        promise04();
        promise05();
        promise06();
        promise06None();
        promise06Beyond();
        promise06Order();
        promise07();
        promise07Refused();
    }

    /** A ROW whose places are its numbers and 1 more, so that none is 0. */
    private static DrawerGloves counted(int... sizes) {
        DrawerGloves x = bare();
        for (int r = 0; r < sizes.length; r++) {
            x.row(r, sizes[r]);
            for (int i = 0; i < sizes[r]; i++) x.lay(r, i, i + 1);
        }
        return x;
    }

    private void promise01() {
        e.sentence(1, "No ROWS, TEXTS, GLOVES.");
        DrawerGloves x = bare();
        for (int what = 0; what <= 10; what++) e.same("count(" + what + ")", x.count(what), 0);
        for (int r = 0; r <= 5; r++) {
            int row = r;
            e.finds(bare(), NOTHING, "tear(" + r + ")", y -> y.tear(row));
        }
        for (int t = 0; t <= 3; t++) {
            int text = t;
            e.finds(bare(), NOTHING, "drawer(" + t + ")", y -> y.drawer(text));
        }
        e.refused(bare(), BAD, "glove(0, 0)", y -> y.glove(0, 0));
        e.refused(bare(), STATE, "missed()", y -> y.missed());
    }

    private void promise02() {
        e.sentence(2, "A ROW is there with n ints 0: n.");
        for (int r = 0; r <= 5; r++) {
            DrawerGloves x = bare();
            e.same("row(" + r + ", 0)", x.row(r, 0), 0);
            e.same("it is there", x.count(8), 1);
            e.same("without places", Desk.row(x, r), "");
            e.same("row(" + r + ", 1)", x.row(r, 1), 1);
            e.same("one place", Desk.row(x, r), "0");
            e.same("row(" + r + ", 40)", x.row(r, 40), 40);
            e.same("40 places", Desk.row(x, r), "0" + " 0".repeat(39));
            e.same("one ROW", x.count(8), 1);
        }
        DrawerGloves x = counted(40);
        e.same("anew, fewer", x.row(0, 2), 2);
        e.same("anew, its places", Desk.row(x, 0), "0 0");
        x.row(0, 40);
        e.same("anew, the places that it had ahead", Desk.row(x, 0), "0" + " 0".repeat(39));
        x = counted(3);
        x.tear(0);
        x.row(0, 3);
        e.same("after it was missing", Desk.row(x, 0), "0 0 0");
        x = counted(2, 2);
        x.row(0, 2);
        e.same("another one stays", Desk.row(x, 1), "1 2");
    }

    private void promise02Refused() {
        e.sentence(2, "BAD: also n above 40");
        e.refused(counted(2), BAD, "row(0, 41)", x -> x.row(0, 41));
        e.refused(counted(2), BAD, "row(0, TOP)", x -> x.row(0, TOP));
        e.refused(counted(2), BAD, "row(1, 41), a missing one", x -> x.row(1, 41));
        e.refused(bare(), BAD, "row(6, 0)", x -> x.row(6, 0));
        e.refused(bare(), BAD, "row(-1, 0)", x -> x.row(-1, 0));
        e.refused(bare(), BAD, "row(TOP, 0)", x -> x.row(TOP, 0));
        e.refused(bare(), BAD, "row(BOTTOM, 0)", x -> x.row(BOTTOM, 0));
        e.sentence(2, "SIZE: below 0.");
        e.finds(counted(2), SIZE, "row(0, -1)", x -> x.row(0, -1));
        e.finds(counted(2), SIZE, "row(5, -1), a missing one", x -> x.row(5, -1));
        e.finds(counted(2), SIZE, "row(0, BOTTOM)", x -> x.row(0, BOTTOM));
        e.refused(bare(), BAD, "row(6, -1): BAD is ahead", x -> x.row(6, -1));
        e.refused(bare(), BAD, "row(-1, -1): BAD is ahead", x -> x.row(-1, -1));
    }

    private void promise03() {
        e.sentence(3, "Place i of a ROW is v: what it was, told by asked(): 1.");
        DrawerGloves x = counted(40, 1);
        e.same("the first place", x.lay(0, 0, TOP), 1);
        e.same("what it was", x.asked(), 1);
        e.same("the last place", x.lay(0, 39, BOTTOM), 1);
        e.same("what it was at the end", x.asked(), 40);
        e.same("the first one is", Desk.place(x, 0, 0), TOP);
        e.same("the one beside it is", Desk.place(x, 0, 1), 2);
        e.same("the last but one is", Desk.place(x, 0, 38), 39);
        e.same("the last one is", Desk.place(x, 0, 39), BOTTOM);
        x.lay(0, 0, 0);
        e.same("the greatest one was", x.asked(), TOP);
        x.lay(0, 39, 0);
        e.same("the least one was", x.asked(), BOTTOM);
        e.same("another ROW stays", Desk.row(x, 1), "1");
        e.sentence(3, "BAD; NOTHING; BEYOND.");
        e.refused(counted(2), BAD, "lay(6, 0, 1)", y -> y.lay(6, 0, 1));
        e.refused(counted(2), BAD, "lay(-1, 0, 1)", y -> y.lay(-1, 0, 1));
        e.finds(counted(2), NOTHING, "lay(5, 0, 1)", y -> y.lay(5, 0, 1));
        e.finds(counted(2), NOTHING, "lay(5, -1, 1): NOTHING is ahead", y -> y.lay(5, -1, 1));
        e.finds(counted(2), BEYOND, "lay(0, -1, 1)", y -> y.lay(0, -1, 1));
        e.finds(counted(2), BEYOND, "lay(0, 2, 1)", y -> y.lay(0, 2, 1));
        e.finds(counted(40), BEYOND, "lay(0, 40, 1) of 40", y -> y.lay(0, 40, 1));
        e.finds(counted(0), BEYOND, "lay(0, 0, 1) of none", y -> y.lay(0, 0, 1));
        e.finds(counted(2), BEYOND, "lay(0, TOP, 1)", y -> y.lay(0, TOP, 1));
        e.finds(counted(2), BEYOND, "lay(0, BOTTOM, 1)", y -> y.lay(0, BOTTOM, 1));
    }

    private void promise04() {
        e.sentence(4, "Place i of a ROW, told by asked(): 1.");
        DrawerGloves x = counted(40);
        e.same("the first place", x.at(0, 0), 1);
        e.same("it is", x.asked(), 1);
        e.same("the last place", x.at(0, 39), 1);
        e.same("it is then", x.asked(), 40);
        e.sentence(4, "BAD; NOTHING; BEYOND.");
        e.refused(counted(2), BAD, "at(6, 0)", y -> y.at(6, 0));
        e.refused(counted(2), BAD, "at(-1, 0)", y -> y.at(-1, 0));
        e.finds(counted(2), NOTHING, "at(5, 0)", y -> y.at(5, 0));
        e.finds(counted(2), NOTHING, "at(5, -1): NOTHING is ahead", y -> y.at(5, -1));
        e.finds(counted(2), BEYOND, "at(0, -1)", y -> y.at(0, -1));
        e.finds(counted(2), BEYOND, "at(0, 2)", y -> y.at(0, 2));
        e.finds(counted(40), BEYOND, "at(0, 40) of 40", y -> y.at(0, 40));
        e.finds(counted(0), BEYOND, "at(0, 0) of none", y -> y.at(0, 0));
        e.finds(counted(2), BEYOND, "at(0, TOP)", y -> y.at(0, TOP));
        e.finds(counted(2), BEYOND, "at(0, BOTTOM)", y -> y.at(0, BOTTOM));
    }

    private void promise05() {
        e.sentence(5, "A ROW is missing: 1.");
        for (int r = 0; r <= 5; r++) {
            DrawerGloves x = counted(0, 1, 2, 3, 4, 5);
            int row = r;
            e.same("tear(" + r + ")", x.tear(r), 1);
            e.same("five are there", x.count(8), 5);
            e.finds(x, NOTHING, "at() of it", y -> y.at(row, 0));
            e.same("the next one stays", x.mean((r + 1) % 5 == 0 ? 1 : (r + 1) % 5), 1);
        }
        e.sentence(5, "BAD; NOTHING.");
        e.refused(counted(2), BAD, "tear(6)", y -> y.tear(6));
        e.refused(counted(2), BAD, "tear(-1)", y -> y.tear(-1));
        e.finds(counted(2), NOTHING, "tear(1)", y -> y.tear(1));
        DrawerGloves x = counted(2);
        x.tear(0);
        e.finds(x, NOTHING, "tear(0) once more", y -> y.tear(0));
    }

    private void copied(DrawerGloves x, int[] how, String from, String to) {
        String call = "copy(" + how[0] + ", " + how[1] + ", " + how[2] + ", " + how[3] + ", " + how[4] + ")";
        e.same(call, x.copy(how[0], how[1], how[2], how[3], how[4]), 1);
        e.same(call + ", the one", Desk.row(x, how[0]), from);
        e.same(call + ", the other", Desk.row(x, how[2]), to);
    }

    private void promise06() {
        e.sentence(6, "n places of a ROW, from one on, come to those of another one (perhaps itself) from one on,"
            + " as if taken ahead: 1.");
        copied(counted(3, 5), new int[] {0, 0, 1, 0, 3}, "1 2 3", "1 2 3 4 5");
        copied(counted(3, 5), new int[] {0, 0, 1, 2, 3}, "1 2 3", "1 2 1 2 3");
        copied(counted(3, 5), new int[] {1, 2, 0, 0, 3}, "1 2 3 4 5", "3 4 5");
        copied(counted(3, 5), new int[] {1, 4, 0, 2, 1}, "1 2 3 4 5", "1 2 5");
        copied(counted(5), new int[] {0, 0, 0, 1, 4}, "1 1 2 3 4", "1 1 2 3 4");
        copied(counted(5), new int[] {0, 1, 0, 0, 4}, "2 3 4 5 5", "2 3 4 5 5");
        copied(counted(5), new int[] {0, 0, 0, 0, 5}, "1 2 3 4 5", "1 2 3 4 5");
        copied(counted(5), new int[] {0, 0, 0, 2, 3}, "1 2 1 2 3", "1 2 1 2 3");
        DrawerGloves x = counted(40, 1, 1, 1, 1, 40);
        x.row(5, 40);
        e.same("40 places", x.copy(0, 0, 5, 0, 40), 1);
        e.same("as they were", Desk.row(x, 5), Desk.row(x, 0));
    }

    private void promise06None() {
        e.sentence(6, "also with n 0, if i, j is below 0, or above its size");
        copied(counted(3, 5), new int[] {0, 0, 1, 0, 0}, "1 2 3", "1 2 3 4 5");
        copied(counted(3, 5), new int[] {0, 3, 1, 5, 0}, "1 2 3", "1 2 3 4 5");
        copied(counted(0, 0), new int[] {0, 0, 1, 0, 0}, "", "");
        e.finds(counted(3, 5), BEYOND, "copy(0, -1, 1, 0, 0)", x -> x.copy(0, -1, 1, 0, 0));
        e.finds(counted(3, 5), BEYOND, "copy(0, 0, 1, -1, 0)", x -> x.copy(0, 0, 1, -1, 0));
        e.finds(counted(3, 5), BEYOND, "copy(0, 4, 1, 0, 0)", x -> x.copy(0, 4, 1, 0, 0));
        e.finds(counted(3, 5), BEYOND, "copy(0, 0, 1, 6, 0)", x -> x.copy(0, 0, 1, 6, 0));
        e.finds(counted(0, 0), BEYOND, "copy(0, 1, 1, 0, 0) of none", x -> x.copy(0, 1, 1, 0, 0));
        e.finds(counted(0, 0), BEYOND, "copy(0, 0, 1, 1, 0) to none", x -> x.copy(0, 0, 1, 1, 0));
        e.finds(counted(3, 5), BEYOND, "copy(0, TOP, 1, 0, 0)", x -> x.copy(0, TOP, 1, 0, 0));
        e.finds(counted(3, 5), BEYOND, "copy(0, 0, 1, BOTTOM, 0)", x -> x.copy(0, 0, 1, BOTTOM, 0));
    }

    private void promise06Beyond() {
        e.sentence(6, "BEYOND: not so many there");
        e.finds(counted(3, 5), BEYOND, "copy(0, 0, 1, 0, 4)", x -> x.copy(0, 0, 1, 0, 4));
        e.finds(counted(3, 5), BEYOND, "copy(0, 1, 1, 0, 3)", x -> x.copy(0, 1, 1, 0, 3));
        e.finds(counted(3, 5), BEYOND, "copy(0, 3, 1, 0, 1)", x -> x.copy(0, 3, 1, 0, 1));
        e.finds(counted(3, 5), BEYOND, "copy(1, 0, 0, 0, 4)", x -> x.copy(1, 0, 0, 0, 4));
        e.finds(counted(3, 5), BEYOND, "copy(1, 0, 0, 1, 3)", x -> x.copy(1, 0, 0, 1, 3));
        e.finds(counted(3, 5), BEYOND, "copy(1, 0, 0, 3, 1)", x -> x.copy(1, 0, 0, 3, 1));
        e.finds(counted(3, 5), BEYOND, "copy(0, -1, 1, 0, 2)", x -> x.copy(0, -1, 1, 0, 2));
        e.finds(counted(3, 5), BEYOND, "copy(0, 0, 1, -1, 2)", x -> x.copy(0, 0, 1, -1, 2));
        e.finds(counted(3), BEYOND, "copy(0, 0, 0, 1, 3)", x -> x.copy(0, 0, 0, 1, 3));
        e.finds(counted(3, 5), BEYOND, "copy(0, 1, 1, 1, TOP)", x -> x.copy(0, 1, 1, 1, TOP));
        e.finds(counted(3, 5), BEYOND, "copy(0, TOP, 1, 0, 1)", x -> x.copy(0, TOP, 1, 0, 1));
        e.finds(counted(3, 5), BEYOND, "copy(0, 0, 1, TOP, 1)", x -> x.copy(0, 0, 1, TOP, 1));
        e.finds(counted(3, 5), BEYOND, "copy(0, TOP, 1, TOP, TOP)", x -> x.copy(0, TOP, 1, TOP, TOP));
        e.finds(counted(3, 5), BEYOND, "copy(0, BOTTOM, 1, 0, TOP)", x -> x.copy(0, BOTTOM, 1, 0, TOP));
    }

    private void promise06Order() {
        e.sentence(6, "BAD; SIZE: n below 0; NOTHING: either;");
        e.refused(counted(3, 5), BAD, "copy(6, 0, 1, 0, 1)", x -> x.copy(6, 0, 1, 0, 1));
        e.refused(counted(3, 5), BAD, "copy(-1, 0, 1, 0, 1)", x -> x.copy(-1, 0, 1, 0, 1));
        e.refused(counted(3, 5), BAD, "copy(0, 0, 6, 0, 1)", x -> x.copy(0, 0, 6, 0, 1));
        e.refused(counted(3, 5), BAD, "copy(0, 0, -1, 0, 1)", x -> x.copy(0, 0, -1, 0, 1));
        e.finds(counted(3, 5), SIZE, "copy(0, 0, 1, 0, -1)", x -> x.copy(0, 0, 1, 0, -1));
        e.finds(counted(3, 5), SIZE, "copy(0, 0, 1, 0, BOTTOM)", x -> x.copy(0, 0, 1, 0, BOTTOM));
        e.finds(counted(3, 5), NOTHING, "copy(2, 0, 1, 0, 1)", x -> x.copy(2, 0, 1, 0, 1));
        e.finds(counted(3, 5), NOTHING, "copy(0, 0, 2, 0, 1)", x -> x.copy(0, 0, 2, 0, 1));
        e.finds(counted(3, 5), NOTHING, "copy(2, 0, 2, 0, 0)", x -> x.copy(2, 0, 2, 0, 0));
        e.sentence(6, "(In this order.)");
        e.refused(counted(3, 5), BAD, "BAD, SIZE", x -> x.copy(6, 0, 1, 0, -1));
        e.refused(counted(3, 5), BAD, "BAD of the other, SIZE", x -> x.copy(0, 0, 6, 0, -1));
        e.refused(counted(3, 5), BAD, "BAD, NOTHING", x -> x.copy(6, 0, 2, 0, 1));
        e.refused(counted(3, 5), BAD, "NOTHING, BAD of the other", x -> x.copy(2, 0, 6, 0, 1));
        e.refused(counted(3, 5), BAD, "BEYOND, BAD of the other", x -> x.copy(0, 9, 6, 0, 1));
        e.finds(counted(3, 5), SIZE, "SIZE, NOTHING", x -> x.copy(2, 0, 1, 0, -1));
        e.finds(counted(3, 5), SIZE, "SIZE, NOTHING of the other", x -> x.copy(0, 0, 2, 0, -1));
        e.finds(counted(3, 5), SIZE, "SIZE, BEYOND", x -> x.copy(0, -1, 1, 9, -1));
        e.finds(counted(3, 5), NOTHING, "NOTHING, BEYOND", x -> x.copy(2, 0, 1, 9, 1));
        e.finds(counted(3, 5), NOTHING, "BEYOND, NOTHING of the other", x -> x.copy(0, 9, 2, 0, 1));
    }

    private void mean(int due, int... places) {
        DrawerGloves x = bare();
        Desk.lay(x, 5, places);
        e.same("mean of " + places.length + " from " + places[0] + " on", x.mean(5), 1);
        e.same("told of it", x.asked(), due);
    }

    private static int[] forty(int v) {
        int[] all = new int[40];
        java.util.Arrays.fill(all, v);
        return all;
    }

    private void promise07() {
        e.sentence(7, "The mean of a ROW's ints, cut, told by asked(): 1.");
        mean(5, 5);
        mean(3, 3, 4);
        mean(2, 1, 2, 5);
        mean(0, 0, 1);
        mean(0, 0, -1);
        mean(-3, -3, -4);
        mean(0, 7, -7);
        mean(TOP, TOP);
        mean(BOTTOM, BOTTOM);
        mean(TOP, forty(TOP));
        mean(BOTTOM, forty(BOTTOM));
        mean(0, TOP, BOTTOM);
        mean(715827882, TOP, TOP, BOTTOM);
        mean(TOP - 1, TOP, TOP - 1);
    }

    private void promise07Refused() {
        e.sentence(7, "BAD; NOTHING; NOUGHT.");
        e.refused(counted(2), BAD, "mean(6)", x -> x.mean(6));
        e.refused(counted(2), BAD, "mean(-1)", x -> x.mean(-1));
        e.finds(counted(2), NOTHING, "mean(1)", x -> x.mean(1));
        e.finds(counted(0), NOUGHT, "mean(0) of none", x -> x.mean(0));
        DrawerGloves x = counted(2);
        x.row(0, 0);
        e.finds(x, NOUGHT, "mean(0) of none any more", y -> y.mean(0));
    }
}
