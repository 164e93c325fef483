/** Promises 33 to 36: by turns, chances, LOTS. */
final class EdgesOfChances extends EdgePart {
    private static final String FOUR = "d8 g005 g015 g009 g019";
    private static final String EIGHT = "d8" + "g005g015".repeat(4);

    EdgesOfChances(Edges e) {
        super(e);
    }

    @Override
    void all() {
        promise33();
        promise33Slowly();
        promise33Refused();
        termsChances();
        promise34();
        promise34Refused();
        promise35();
        promise36();
        promise36Numbers();
        promise36Else();
        promise36Refused();
        promise36Full();
    }

    private void duel(DrawerGloves x, int n, int due) {
        e.aside(x, due, "duel(" + n + ")", y -> y.duel(n));
    }

    private void promise33() {
        e.sentence(33, "By n (0 .. 6) turns in all two take a GLOVE each out of the drawer in turn (if there is one): how"
            + " much more GOOD what the first one has is than what the second one has at last, each wanting its own to be"
            + " more than the other's; 100 more.");
        int[] due = {100, 100, 100, 114, 100, 100, 100};
        for (int n = 0; n <= 6; n++) duel(with(FOUR), n, due[n]);
        for (int n = 0; n <= 6; n++) duel(with("d8g009"), n, 100);
        for (int n = 0; n <= 6; n++) duel(with("d8g009g019"), n, 100);
        DrawerGloves x = with("d8g009g019");
        x.out(0);
        x.lose(1);
        for (int n = 0; n <= 6; n++) duel(x, n, 100);
        // of three alike the first one takes two
        for (int n = 3; n <= 6; n++) duel(with("d8e009e009e009"), n, 116);
        // the third turn takes the better of what is left, the fourth nothing of worth
        x = with(FOUR);
        x.lose(0);
        duel(x, 3, 114);
        duel(x, 6, 114);
        x = with("d8" + "e009".repeat(8));
        duel(x, 4, 100);
        duel(x, 5, 100);
        duel(x, 6, 100);
        x = with("d8 g009 g019 g001 g011 e005");
        duel(x, 5, 103);
        duel(x, 6, 103);
    }

    /** Slow goes through all ways of all turns. */
    private void promise33Slowly() {
        e.sentence(33, "each wanting its own to be more than the other's");
        String[] texts = {"d8 g109 m217 l313 e408 t505 s016 g119 g902", "d8 g009 g019 g119 g109 e205 t317 m418 l506",
            "d8 t009 t119 e307 g415 m204 m614 l508 g719", "d8 m018 m107 l215 g304 g413 e501 s612 t700"};
        for (String text : texts) {
            Slow y = new Slow();
            y.text(0, text.length());
            for (int i = 0; i < text.length(); i++) y.put(0, i, text.charAt(i));
            y.drawer(0);
            for (int n = 0; n <= 6; n++) duel(with(text), n, y.duel(n));
        }
    }

    private void promise33Refused() {
        e.sentence(33, "BAD; STATE: no GLOVES.");
        e.refused(with(FOUR), BAD, "duel(7)", x -> x.duel(7));
        e.refused(with(FOUR), BAD, "duel(-1)", x -> x.duel(-1));
        e.refused(with(FOUR), BAD, "duel(TOP)", x -> x.duel(TOP));
        e.refused(with(FOUR), BAD, "duel(BOTTOM)", x -> x.duel(BOTTOM));
        e.refused(bare(), STATE, "duel(0) of none", x -> x.duel(0));
        e.refused(bare(), STATE, "duel(6) of none", x -> x.duel(6));
        e.refused(bare(), BAD, "duel(7) of none: BAD is ahead", x -> x.duel(7));
        e.refused(bare(), BAD, "duel(-1) of none: BAD is ahead", x -> x.duel(-1));
    }

    private void odds(DrawerGloves x, int[] how, long upper, long lower) {
        String call = "odds(" + how[0] + ", " + how[1] + ", " + how[2] + ")";
        e.aside(x, 1, call, y -> y.odds(how[0], how[1], how[2]));
        e.same(call + ", upper()", x.upper(), upper);
        e.same(call + ", lower()", x.lower(), lower);
    }

    private void odds(String text, int v, int p, int q, long upper, long lower) {
        odds(with(text), new int[] {v, p, q}, upper, lower);
    }

    private void termsChances() {
        e.sentence(Edges.TERMS, "each GLOVE of the drawer is lost by itself, those for the left by p, for the right by q"
            + " of 12, EITHER ones by the greater of both; STRINGS are not");
        odds("d8 g005 s015", 1, 1, 12, 11, 12);
        odds("d8 s005 g015", 1, 12, 1, 11, 12);
        odds("d8 s005 s015", 1, 12, 12, 1, 1);
        odds("d8 m005 s015", 1, 5, 12, 7, 12);
        odds("d8 l005 s015", 1, 5, 12, 7, 12);
        odds("d8 e005 s015", 1, 5, 7, 5, 12);
        odds("d8 e005 s015", 1, 7, 5, 5, 12);
        odds("d8 e015 s015", 1, 7, 5, 5, 12);
        odds("d8 t005 s015", 1, 5, 7, 5, 12);
        odds("d8 t015 s015", 1, 7, 5, 5, 12);
        odds("d8 t015 s015", 1, 12, 0, 0, 1);
        odds("d8 e005 e005", 1, 1, 0, 121, 144);
    }

    private void promise34() {
        e.sentence(34, "Chances that what is left makes v (0 .. 4) PAIRS or more: 1.");
        for (int p = 0; p <= 12; p++) odds(FOUR, 0, p, 12 - p, 1, 1);
        odds(FOUR, 2, 0, 0, 1, 1);
        odds(FOUR, 3, 0, 0, 0, 1);
        odds(FOUR, 4, 0, 0, 0, 1);
        odds(FOUR, 1, 12, 0, 0, 1);
        odds(FOUR, 1, 0, 12, 0, 1);
        odds(FOUR, 2, 6, 6, 1, 16);
        odds(FOUR, 1, 6, 6, 9, 16);
        odds("d8 g005", 1, 0, 0, 0, 1);
        odds("d8 g000 g910", 1, 0, 0, 1, 1);
        odds(EIGHT, 4, 0, 0, 1, 1);
        odds(EIGHT, 4, 1, 1, 214358881L, 429981696L);
        odds(EIGHT, 4, 11, 11, 1, 429981696L);
        odds(EIGHT, 4, 12, 12, 0, 1);
        DrawerGloves x = with(FOUR);
        x.lose(0);
        x.out(1);
        odds(x, new int[] {1, 0, 0}, 1, 1);
        odds(x, new int[] {2, 0, 0}, 0, 1);
        odds(x, new int[] {1, 3, 4}, 1, 2);
        x.out(2);
        x.out(3);
        odds(x, new int[] {0, 12, 12}, 1, 1);
        odds(x, new int[] {1, 0, 0}, 0, 1);
    }

    private static DrawerGloves oddsTold() {
        DrawerGloves x = with(FOUR);
        x.odds(1, 6, 6);
        return x;
    }

    private void promise34Refused() {
        e.sentence(34, "BAD; STATE: no GLOVES.");
        e.refused(oddsTold(), BAD, "odds(5, 0, 0)", x -> x.odds(5, 0, 0));
        e.refused(oddsTold(), BAD, "odds(-1, 0, 0)", x -> x.odds(-1, 0, 0));
        e.refused(oddsTold(), BAD, "odds(0, 13, 0)", x -> x.odds(0, 13, 0));
        e.refused(oddsTold(), BAD, "odds(0, -1, 0)", x -> x.odds(0, -1, 0));
        e.refused(oddsTold(), BAD, "odds(0, 0, 13)", x -> x.odds(0, 0, 13));
        e.refused(oddsTold(), BAD, "odds(0, 0, -1)", x -> x.odds(0, 0, -1));
        e.refused(oddsTold(), BAD, "odds(TOP, 0, 0)", x -> x.odds(TOP, 0, 0));
        e.refused(oddsTold(), BAD, "odds(0, BOTTOM, TOP)", x -> x.odds(0, BOTTOM, TOP));
        e.refused(bare(), STATE, "odds(0, 0, 0) of none", x -> x.odds(0, 0, 0));
        e.refused(bare(), BAD, "odds(5, 0, 0) of none: BAD is ahead", x -> x.odds(5, 0, 0));
        e.refused(bare(), BAD, "odds(0, 13, 0) of none: BAD is ahead", x -> x.odds(0, 13, 0));
        e.refused(bare(), BAD, "odds(0, 0, 13) of none: BAD is ahead", x -> x.odds(0, 0, 13));
    }

    private void mid(DrawerGloves x, int p, int q, long upper, long lower) {
        String call = "mid(" + p + ", " + q + ")";
        e.aside(x, 1, call, y -> y.mid(p, q));
        e.same(call + ", upper()", x.upper(), upper);
        e.same(call + ", lower()", x.lower(), lower);
    }

    private void promise35() {
        e.sentence(35, "The mean of how GOOD what is left is: 1.");
        mid(with(FOUR), 0, 0, 28, 1);
        mid(with(FOUR), 12, 12, 0, 1);
        mid(with(FOUR), 12, 0, 0, 1);
        mid(with(FOUR), 0, 12, 0, 1);
        mid(with("d8 g005 g015"), 1, 11, 55, 72);
        mid(with("d8 g005"), 0, 0, 0, 1);
        mid(with("d8 g000 g910"), 0, 0, 0, 1);
        mid(with("d8 s005 s015 g019"), 12, 12, 10, 1);
        mid(with("d8 s005 s015 g019"), 12, 6, 12, 1);
        mid(with("d8" + "l009l019".repeat(4)), 0, 0, 96, 1);
        DrawerGloves x = with(FOUR);
        x.lose(0);
        x.out(1);
        mid(x, 0, 0, 18, 1);
        mid(x, 6, 6, 9, 2);
        x.out(2);
        x.out(3);
        mid(x, 0, 0, 0, 1);
        e.sentence(35, "BAD; STATE: no GLOVES.");
        e.refused(oddsTold(), BAD, "mid(13, 0)", y -> y.mid(13, 0));
        e.refused(oddsTold(), BAD, "mid(-1, 0)", y -> y.mid(-1, 0));
        e.refused(oddsTold(), BAD, "mid(0, 13)", y -> y.mid(0, 13));
        e.refused(oddsTold(), BAD, "mid(0, -1)", y -> y.mid(0, -1));
        e.refused(oddsTold(), BAD, "mid(TOP, BOTTOM)", y -> y.mid(TOP, BOTTOM));
        e.refused(bare(), STATE, "mid(0, 0) of none", y -> y.mid(0, 0));
        e.refused(bare(), BAD, "mid(13, 0) of none: BAD is ahead", y -> y.mid(13, 0));
        e.refused(bare(), BAD, "mid(0, 13) of none: BAD is ahead", y -> y.mid(0, 13));
    }

    private void promise36() {
        e.sentence(36, "n (1 .. 20) DEEDS truly by LOTS of a seed:");
        for (int n = 1; n <= 20; n++) {
            DrawerGloves x = with(EIGHT);
            e.same("lots(" + n + ", 5), in the drawer", x.lots(n, 5), Integer.bitCount(x.count(3)));
            e.same("DEEDS of lots(" + n + ", 5)", x.count(2), n);
            DrawerGloves y = with(EIGHT);
            y.lots(20, 5);
            e.same("undone to them", y.undo(n), 20 - n);
            e.same("as by fewer", y.count(3), x.count(3));
        }
        e.sentence(36, "how many are in the drawer.");
        DrawerGloves x = with("d8g005");
        e.same("none", x.lots(1, 1), 0);
        e.same("one", x.lots(1, 1), 1);
        e.same("eight", with("d8" + "s005".repeat(8)).lots(20, 1), 8);
    }

    /** Which GLOVE the first number of a seed takes of so many. */
    private static int lot(long seed, int howMany) {
        return (int) (seed * 48271 % 2147483647 / 8 % howMany);
    }

    private void promise36Numbers() {
        e.sentence(36, "a number comes from the one ahead by 48271 times it modulo 2147483647, the first from the seed"
            + " (1 .. 2147483646): the GLOVE that it by 8, cut, modulo how many there are is LOST, if it is in the drawer"
            + " and no STRING;");
        int[] seeds = {1, 2, 3, 7, 44488, 44489, 1000000, 1073741823, 1073741824, 2147483645, 2147483646};
        for (int size = 1; size <= 8; size++) {
            for (int seed : seeds) {
                DrawerGloves x = with("d8" + "g005".repeat(size));
                e.same("lots(1, " + seed + ") of " + size, x.lots(1, seed), size - 1);
                e.same("LOST by lots(1, " + seed + ") of " + size, x.count(4), 1 << lot(seed, size));
            }
        }
        // 48271, 182605794, 1291394886, 1914720637, 2078669041: by 8 modulo 8 it is 1, 4, 0, 7, 6
        DrawerGloves x = with("d8" + "g005".repeat(8));
        int[] lost = {2, 18, 19, 147, 211};
        for (int due : lost) {
            x.undo(0);
            x.lots(Integer.bitCount(due), 1);
            e.same("LOST by " + Integer.bitCount(due) + " of seed 1", x.count(4), due);
        }
        x = with("d8" + "g005".repeat(8));
        x.out(7);
        x.lose(0);
        e.same("of all, not of those in the drawer", x.lots(1, 1), 5);
        e.same("LOST then", x.count(4), 3);
    }

    private void promise36Else() {
        e.sentence(36, "comes BACK, if it is LOST, and there is ROOM;");
        DrawerGloves x = with("d1g005");
        e.same("LOST, BACK, LOST, BACK", x.lots(4, 1), 1);
        e.same("no WEAR", x.count(6), 0);
        x = with("d1 g005 g015");
        x.lose(1);
        e.same("1 is due, no ROOM, no PAIR", x.lots(1, 1), 1);
        e.same("LOST still", x.count(4), 2);
        x = with("d2 g005 g015");
        x.lose(1);
        e.same("1 is due, ROOM", x.lots(1, 1), 2);
        e.sentence(36, "else the first PAIR of the drawer (by the lesser number, then the other one) is WORN, if there is"
            + " any (else nothing, but a DEED):");
        x = with("d2 g005 g015 s005 s015");
        x.lose(1);
        // 1, by 8 modulo 4, is LOST, and there is no ROOM
        e.same("no ROOM, a PAIR", x.lots(1, 1), 3);
        e.same("the first one is WORN", Desk.of(x, 0, 4) * 10 + Desk.of(x, 3, 4), 11);
        e.same("no other one", x.count(6), 2);
        x = with("d8 s005 s005 s015 s015");
        x.lots(1, 1);
        e.same("the lesser number first", Desk.of(x, 0, 4) * 10 + Desk.of(x, 2, 4), 11);
        x = with("d8 s005 s005 s005 s015");
        x.out(0);
        x.lots(3, 1);
        e.same("of the drawer, the same again", Desk.of(x, 1, 4) * 10 + Desk.of(x, 3, 4), 33);
        x = with("d8 g005 g005 s005 s015");
        x.out(1);
        x.lots(1, 1);
        e.same("one that is OUT: a PAIR is WORN", Desk.of(x, 0, 4) * 10 + Desk.of(x, 3, 4), 11);
        x = with("d8 e005 s015");
        x.lots(1, 1);
        e.same("an EITHER one with another", Desk.of(x, 0, 4) * 10 + Desk.of(x, 1, 4), 11);
        x = with("d8 e005 g015");
        x.out(1);
        e.same("an EITHER one by itself", x.lots(1, 1), 1);
        e.same("is no PAIR", x.count(2) * 100 + x.count(6), 200);
        x = with("d8 s000 s910");
        x.lots(1, 1);
        e.same("a PAIR as GOOD as nothing", x.count(6), 2);
        x = with("d8 s005 s005");
        e.same("no PAIR", x.lots(20, 1), 2);
        e.same("nothing, but DEEDS", x.count(2) * 100 + x.count(6), 2000);
    }

    private void promise36Refused() {
        e.sentence(36, "BAD; STATE: no GLOVES;");
        e.refused(with(EIGHT), BAD, "lots(0, 1)", x -> x.lots(0, 1));
        e.refused(with(EIGHT), BAD, "lots(21, 1)", x -> x.lots(21, 1));
        e.refused(with(EIGHT), BAD, "lots(-1, 1)", x -> x.lots(-1, 1));
        e.refused(with(EIGHT), BAD, "lots(TOP, 1)", x -> x.lots(TOP, 1));
        e.refused(with(EIGHT), BAD, "lots(BOTTOM, 1)", x -> x.lots(BOTTOM, 1));
        e.refused(with(EIGHT), BAD, "lots(1, 0)", x -> x.lots(1, 0));
        e.refused(with(EIGHT), BAD, "lots(1, -1)", x -> x.lots(1, -1));
        e.refused(with(EIGHT), BAD, "lots(1, TOP)", x -> x.lots(1, TOP));
        e.refused(with(EIGHT), BAD, "lots(1, BOTTOM)", x -> x.lots(1, BOTTOM));
        e.refused(bare(), STATE, "lots(1, 1) of none", x -> x.lots(1, 1));
        e.refused(bare(), BAD, "lots(0, 1) of none: BAD is ahead", x -> x.lots(0, 1));
        e.refused(bare(), BAD, "lots(1, 0) of none: BAD is ahead", x -> x.lots(1, 0));
    }

    private void promise36Full() {
        e.sentence(36, "FULL: with n more there would be more than 40 DEEDS. (FULL last.)");
        for (int done = 20; done <= 40; done++) {
            int more = 40 - done;
            DrawerGloves x = with("d8 s005 s015");
            Desk.wearOften(x, 0, 1, done);
            if (more < 20) e.refused(x, FULL, (more + 1) + " more than " + done, y -> y.lots(more + 1, 1));
            if (more > 0) e.same(more + " more than " + done, x.lots(more, 1), 2);
            e.same("DEEDS then", x.count(2), 40);
            e.refused(x, FULL, "one more", y -> y.lots(1, 1));
            e.refused(x, FULL, "twenty more", y -> y.lots(20, 1));
        }
        DrawerGloves x = with("d8 s005 s015");
        Desk.wearOften(x, 0, 1, 40);
        e.refused(x, BAD, "BAD of none, FULL", y -> y.lots(0, 1));
        e.refused(x, BAD, "BAD of 21, FULL", y -> y.lots(21, 1));
        e.refused(x, BAD, "BAD of a seed, FULL", y -> y.lots(1, 0));
        e.refused(x, BAD, "BAD of a seed above, FULL", y -> y.lots(20, TOP));
        DrawerGloves gone = with("d8 s005");
        gone.out(0);
        e.same("GLOVES, but none in the drawer", gone.lots(1, 1), 0);
    }
}
