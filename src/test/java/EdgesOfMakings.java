/** Promises 22 to 28: sets of GLOVES, days, ROOM. */
final class EdgesOfMakings extends EdgePart {
    private static final String FOUR = "d8 g005 g015 g003 g013";

    EdgesOfMakings(Edges e) {
        super(e);
    }

    @Override
    void all() {
        termsParted();
        promise22();
        promise22Refused();
        promise23();
        promise23First();
        promise24();
        promise25();
        promise26();
        promise26Wear();
        promise26First();
        promise26None();
        promise26Refused();
        promise27();
        promise27Loss();
        promise27Like();
        promise28();
    }

    private void good(DrawerGloves x, int set, int due, int pairs) {
        e.aside(x, due, "good(" + set + ")", y -> y.good(set));
        e.same("PAIRS of " + set, x.asked(), pairs);
    }

    private void termsParted() {
        e.sentence(Edges.TERMS, "PAIRS of a set of GLOVES are parted: none is in two.");
        good(with("d8 g009 g019 g019"), 7, 18, 1);
        good(with("d8 g009 g009 g019"), 7, 18, 1);
        good(with("d8 e009 e009 e009"), 7, 16, 1);
        e.sentence(Edges.TERMS, "The set is as GOOD as such PAIRS can be together at most.");
        good(with("d8 g009 g019 g001 g011"), 15, 20, 2);
        good(with("d8 g009 g019 g119 g109"), 15, 36, 2);
        good(with("d8 g109 g019 g119 g009"), 15, 36, 2);
        good(with("d8 g000 g910 g900 g010"), 15, 0, 2);
        good(with("d8" + "g009".repeat(7) + "g019"), 255, 18, 1);
        good(with("d8" + "g009g019".repeat(4)), 255, 72, 4);
    }

    private void promise22() {
        e.sentence(22, "How GOOD a set of GLOVES is (wherever they are); how many PAIRS at most it makes by asked().");
        DrawerGloves x = with("d1" + "g009g019".repeat(4));
        good(x, 0, 0, 0);
        good(x, 1, 0, 0);
        good(x, 128, 0, 0);
        good(x, 129, 18, 1);
        good(x, 5, 0, 0);
        good(x, 127, 54, 3);
        good(x, 255, 72, 4);
        x.lose(0);
        x.out(7);
        good(x, 129, 18, 1);
        good(x, 255, 72, 4);
        good(with("d8g009"), 0, 0, 0);
        good(with("d8g009"), 1, 0, 0);
        good(bare(), 0, 0, 0);
        good(with("d8g000g910"), 3, 0, 1);
        x = with("d1" + "g009g019".repeat(4));
        good(x, 255, 72, 4);
        Desk.write(x, 1, "d1" + "g009".repeat(8));
        x.drawer(1);
        good(x, 255, 0, 0);
        good(x, 3, 0, 0);
        // two PAIRS can be made, though the one between is more GOOD
        good(with("d8 g900 e009 e009 g900"), 15, 16, 2);
    }

    private void promise22Refused() {
        e.sentence(22, "BAD.");
        e.refused(bare(), BAD, "good(1) without GLOVES", x -> x.good(1));
        e.refused(bare(), BAD, "good(-1) without GLOVES", x -> x.good(-1));
        e.refused(with("d8g009"), BAD, "good(2) of one", x -> x.good(2));
        e.refused(with(FOUR), BAD, "good(16) of four", x -> x.good(16));
        e.refused(with(FOUR), BAD, "good(17) of four", x -> x.good(17));
        e.refused(with(FOUR), BAD, "good(-1)", x -> x.good(-1));
        e.refused(with(FOUR), BAD, "good(TOP)", x -> x.good(TOP));
        e.refused(with(FOUR), BAD, "good(BOTTOM)", x -> x.good(BOTTOM));
        e.refused(with("d8" + "g000".repeat(8)), BAD, "good(256) of eight", x -> x.good(256));
        e.refused(with("d8" + "g000".repeat(8)), BAD, "good(65536) of eight", x -> x.good(65536));
    }

    private void pairs(DrawerGloves x, int due, String row) {
        e.same("pairs(5)", x.pairs(5), due);
        e.same("its ROW", Desk.row(x, 5), row);
    }

    private void promise23() {
        e.sentence(23, "How GOOD the drawer is; with whom each of its GLOVES is comes to a ROW (of all GLOVES, anew;"
            + " NONE: none)");
        pairs(with("d8g009"), 0, "-9");
        pairs(with("d8g009g009"), 0, "-9 -9");
        pairs(with("d8" + "g009g019".repeat(4)), 72, "1 0 3 2 5 4 7 6");
        DrawerGloves x = with(FOUR);
        Desk.lay(x, 5, 1, 2, 3, 4, 5, 6, 7, 8, 9);
        pairs(x, 16, "1 0 3 2");
        e.same("one ROW", x.count(8), 1);
        x.lose(0);
        pairs(x, 8, "-9 2 1 -9");
        x.out(2);
        pairs(x, 0, "-9 -9 -9 -9");
        x.lose(1);
        x.out(3);
        pairs(x, 0, "-9 -9 -9 -9");
        x.row(5, 0);
        pairs(x, 0, "-9 -9 -9 -9");
        x.tear(5);
        pairs(x, 0, "-9 -9 -9 -9");
        e.same("for the first ROW", x.pairs(0), 0);
        e.same("two ROWS", x.count(8), 2);
        e.sentence(23, "BAD; STATE: no GLOVES.");
        e.refused(with(FOUR), BAD, "pairs(6)", y -> y.pairs(6));
        e.refused(with(FOUR), BAD, "pairs(-1)", y -> y.pairs(-1));
        e.refused(with(FOUR), BAD, "pairs(TOP)", y -> y.pairs(TOP));
        e.refused(with(FOUR), BAD, "pairs(BOTTOM)", y -> y.pairs(BOTTOM));
        e.refused(bare(), STATE, "pairs(0) of none", y -> y.pairs(0));
        e.refused(bare(), BAD, "pairs(6) of none: BAD is ahead", y -> y.pairs(6));
    }

    private void promise23First() {
        e.sentence(23, "by the first such way (rising; NONE least).");
        pairs(with("d8 g000 g010"), 0, "-9 -9");
        pairs(with("d8 g000 g010 g009 g019"), 18, "-9 -9 3 2");
        pairs(with("d8 g009 g009 g019 g019"), 36, "2 3 0 1");
        pairs(with("d8 g009 g009 g019"), 18, "-9 2 1");
        pairs(with("d8 g009 g019 g019"), 18, "1 0 -9");
        pairs(with("d8 e005 e005 e005"), 8, "-9 2 1");
        pairs(with("d8 e005 e005 e005 e005"), 16, "1 0 3 2");
        pairs(with("d8 g109 g019 g119 g009"), 36, "2 3 0 1");
        pairs(with("d8 g900 e009 e009 g900"), 16, "-9 2 1 -9");
    }

    private void missed(DrawerGloves x, int due, int by) {
        e.aside(x, due, "missed()", y -> y.missed());
        e.same("by how much", x.asked(), by);
    }

    private void promise24() {
        e.sentence(24, "The GLOVE of the drawer (a STRING, too) without which it is less GOOD by most (perhaps by 0; the"
            + " first); by how much by asked().");
        missed(with("d8 g009"), 0, 0);
        missed(with("d8 s009"), 0, 0);
        missed(with("d8 g005 g015"), 0, 10);
        missed(with("d8 g005 g005 s015"), 2, 10);
        missed(with("d8 g001 g019 g009"), 1, 18);
        missed(with("d8 g003 g013 g005 g015"), 2, 8);
        missed(with("d8 g005 g015 g005 g015"), 0, 10);
        missed(with("d8 g005 g015 g005 g015 g009"), 1, 10);
        DrawerGloves x = with("d8 g009 g019 g001 g011");
        x.lose(0);
        missed(x, 2, 10);
        x.out(1);
        missed(x, 2, 2);
        x.lose(2);
        missed(x, 3, 0);
        x.lose(3);
        e.sentence(24, "NONE: it has none.");
        e.refused(x, NONE, "all LOST, OUT", y -> y.missed());
        x = with("d8s009");
        x.out(0);
        x.good(1);
        e.refused(x, NONE, "the only one OUT", y -> y.missed());
        e.sentence(24, "STATE: no GLOVES.");
        e.refused(bare(), STATE, "missed() of none", y -> y.missed());
    }

    private void wished(DrawerGloves x, int due, int by) {
        e.aside(x, due, "wished()", y -> y.wished());
        e.same("by how much", x.asked(), by);
    }

    private void promise25() {
        e.sentence(25, "The GLOVE not in the drawer by which it would be more GOOD by most (the first); by how much by"
            + " asked().");
        DrawerGloves x = with("d1 g005 g015 g017 g017 g007");
        x.lose(1);
        wished(x, 1, 0);
        x.lose(2);
        x.lose(3);
        wished(x, 2, 14);
        x.out(2);
        wished(x, 2, 14);
        x.out(3);
        wished(x, 2, 14);
        x.lose(4);
        wished(x, 2, 12);
        x.out(0);
        wished(x, 0, 0);
        x = with("d8s009");
        x.out(0);
        wished(x, 0, 0);
        e.sentence(25, "NONE: all are in it.");
        e.refused(with(FOUR), NONE, "at first", y -> y.wished());
        x = with("d8g009");
        x.lose(0);
        x.back(0);
        x.good(1);
        e.refused(x, NONE, "BACK", y -> y.wished());
        e.sentence(25, "STATE: no GLOVES.");
        e.refused(bare(), STATE, "wished() of none", y -> y.wished());
    }

    private void days(DrawerGloves x, int n, int due, String row) {
        long deeds = x.count(2) * 1000L + x.count(6);
        e.same("days(" + n + ", 5)", x.days(n, 5), due);
        e.same("its ROW", Desk.row(x, 5), row);
        e.same("nothing is done", x.count(2) * 1000L + x.count(6), deeds);
    }

    private void promise26() {
        e.sentence(26, "How GOOD PAIRS WORN on n (0 .. 3) days are together at most,");
        DrawerGloves x = with(FOUR);
        Desk.lay(x, 5, 7, 7, 7, 7, 7);
        days(x, 0, 0, "");
        days(x, 1, 10, "1");
        days(x, 2, 20, "1 1");
        days(x, 3, 30, "1 1 1");
        days(x, 0, 0, "");
        e.same("one ROW", x.count(8), 1);
        e.same("for the first ROW", x.days(0, 0), 0);
        e.same("it is there", x.count(8), 2);
        e.sentence(26, "(of the drawer, one a day, perhaps the same again)");
        x = with(FOUR);
        x.lose(0);
        days(x, 1, 8, "12");
        days(x, 3, 24, "12 12 12");
        x.out(1);
        days(x, 3, 18, "23 23 23");
        days(with("d8g000g910"), 3, 0, "1 1 1");
        x = with("d8 g001 g019 g009 g011");
        days(x, 1, 18, "12");
        x.lose(1);
        days(x, 1, 10, "23");
        e.sentence(26, "10 times the lesser number and the other one for each day comes to a ROW (anew)");
        x = with("d8" + "g000".repeat(6) + "g009g019");
        days(x, 2, 36, "67 67");
        x = with("d8 g019" + "g010".repeat(6) + "g009");
        days(x, 1, 18, "7");
    }

    private void promise26Wear() {
        e.sentence(26, "WEAR going on");
        DrawerGloves x = with("d8 g009 g019");
        x.wear(0, 1);
        days(x, 3, 18 + 18 + 16, "1 1 1");
        x.wear(0, 1);
        days(x, 3, 18 + 16 + 16, "1 1 1");
        x.wear(0, 1);
        days(x, 3, 48, "1 1 1");
        // the lining lasts for one day more, then two others are as GOOD
        x = with("d8 l000 g010 g001 g011");
        Desk.wearOften(x, 0, 1, 5);
        days(x, 1, 4, "3");
        days(x, 2, 6, "3 23");
        days(x, 3, 8, "3 23 23");
        x = with("d8 g001 g011");
        Desk.wearOften(x, 0, 1, 40);
        days(x, 3, 0, "1 1 1");
        x = with("d8 g005 g015 g005 g015");
        Desk.wearOften(x, 0, 1, 2);
        days(x, 2, 20, "1 23");
        days(x, 3, 30, "1 23 23");
    }

    private void promise26First() {
        e.sentence(26, "by the first such row.");
        days(with("d8 g005 g015 g005 g015"), 3, 30, "1 1 1");
        days(with("d8 g005 g005 g015 g015"), 2, 20, "2 2");
        days(with("d8 g000 g900 g015 g915"), 1, 5, "2");
        DrawerGloves x = with("d8 g005 g015 g005 g015");
        Desk.wearOften(x, 0, 3, 2);
        days(x, 1, 10, "1");
        days(x, 2, 20, "1 12");
        days(x, 3, 30, "1 12 12");
        days(with("d8 e001 e001 e001"), 3, 0, "1 1 1");
    }

    private void promise26None() {
        e.sentence(26, "NONE: on a day there would be none.");
        for (int n = 1; n <= 3; n++) {
            int howMany = n;
            DrawerGloves x = with("d8 g009 g009");
            Desk.lay(x, 5, 7, 8);
            e.refused(x, NONE, "days(" + n + ", 5) of two left ones", y -> y.days(howMany, 5));
            e.refused(x, NONE, "days(" + n + ", 4), a missing ROW", y -> y.days(howMany, 4));
            e.refused(with("d8 e009"), NONE, "days(" + n + ", 0) of one", y -> y.days(howMany, 0));
            x = with("d8 g009 g019");
            x.lose(0);
            e.refused(x, NONE, "days(" + n + ", 0) of one left", y -> y.days(howMany, 0));
            x.out(1);
            e.refused(x, NONE, "days(" + n + ", 0) of none left", y -> y.days(howMany, 0));
        }
        days(with("d8 g009 g009"), 0, 0, "");
    }

    private void promise26Refused() {
        e.sentence(26, "BAD; STATE: no GLOVES.");
        e.refused(with(FOUR), BAD, "days(4, 0)", x -> x.days(4, 0));
        e.refused(with(FOUR), BAD, "days(-1, 0)", x -> x.days(-1, 0));
        e.refused(with(FOUR), BAD, "days(TOP, 0)", x -> x.days(TOP, 0));
        e.refused(with(FOUR), BAD, "days(BOTTOM, 0)", x -> x.days(BOTTOM, 0));
        e.refused(with(FOUR), BAD, "days(1, 6)", x -> x.days(1, 6));
        e.refused(with(FOUR), BAD, "days(1, -1)", x -> x.days(1, -1));
        e.refused(with(FOUR), BAD, "days(0, 6)", x -> x.days(0, 6));
        e.refused(bare(), STATE, "days(1, 0) of none", x -> x.days(1, 0));
        e.refused(bare(), STATE, "days(0, 0) of none", x -> x.days(0, 0));
        e.refused(bare(), BAD, "days(4, 0) of none: BAD is ahead", x -> x.days(4, 0));
        e.refused(bare(), BAD, "days(0, 6) of none: BAD is ahead", x -> x.days(0, 6));
        e.refused(with("d8g009"), BAD, "days(4, 0), NONE: BAD is ahead", x -> x.days(4, 0));
        e.refused(with("d8g009"), BAD, "days(1, 6), NONE: BAD is ahead", x -> x.days(1, 6));
    }

    private void room(String text, int due, int then) {
        room(with(text), "'" + text + "'", due, then);
    }

    private void room(DrawerGloves x, String what, int due, int then) {
        e.aside(x, due, "room() of " + what, y -> y.room());
        e.same("how GOOD then of " + what, x.asked(), then);
    }

    private void promise27() {
        e.sentence(27, "Which set of the drawer's GLOVES, as many as there is ROOM, or fewer, is GOOD most,");
        String strings = " s005 s015 s004 s014 s003 s013 s002 s012";
        room("d1" + strings, 0, 0);
        room("d2" + strings, 3, 10);
        room("d3" + strings, 3, 10);
        room("d4" + strings, 15, 18);
        room("d5" + strings, 15, 18);
        room("d6" + strings, 63, 24);
        room("d7" + strings, 63, 24);
        room("d8" + strings, 255, 28);
        DrawerGloves x = with("d4" + strings);
        x.out(0);
        room(x, "the drawer without the first", 30, 16);
        for (int i = 1; i < 8; i++) x.out(i);
        room(x, "the drawer without any", 0, 0);
        e.sentence(27, "STATE: no GLOVES.");
        e.refused(bare(), STATE, "room() of none", y -> y.room());
    }

    private void promise27Loss() {
        e.sentence(27, "when that one is LOST by which it is least so (STRINGS are not; if there is none to lose, as it"
            + " is);");
        room("d8 g005", 0, 0);
        room("d8 g009 g019", 0, 0);
        room("d8 s009 g019", 0, 0);
        room("d8 s009 s019", 3, 18);
        room("d8 s009 g019 g018", 7, 17);
        room("d2 s009 g019 g018", 0, 0);
        room("d8 g009 g019 g001 g011", 15, 10);
        room("d8 g009 g019 s001 s011", 15, 10);
        e.sentence(27, "how GOOD then by asked().");
        room("d3 e006 e006 e006", 7, 10);
        room("d3 s009 s019 g019", 3, 18);
    }

    private void promise27Like() {
        e.sentence(27, "of like ones fewest, then the least set;");
        room("d8 s005 s005 s015 s015 g005", 15, 20);
        room("d8 g005 s005 s015 s005 s015", 30, 20);
        room("d2 s005 s015 s005 s015", 3, 10);
        room("d2 s015 s015 s005 s005", 5, 10);
        room("d3 e006 e006 e006 e006", 7, 10);
        room("d4 e006 e006 e006 e006", 7, 10);
        room("d5 e006 e006 e006 e006 e006", 31, 20);
        room("d1 g009 g019 g009", 0, 0);
    }

    private void join(DrawerGloves x, int set, int other, int due) {
        e.aside(x, due, "join(" + set + ", " + other + ")", y -> y.join(set, other));
    }

    private void promise28() {
        e.sentence(28, "How much more GOOD two sets are joined (what is in both counts once) than by themselves together"
            + " (perhaps less), and 200 more.");
        DrawerGloves x = with("d1" + "g009".repeat(4) + "g019".repeat(4));
        join(x, 0, 0, 200);
        join(x, 255, 0, 200);
        join(x, 0, 255, 200);
        join(x, 255, 255, 128);
        join(x, 15, 240, 272);
        join(x, 17, 34, 200);
        join(x, 17, 17, 182);
        join(x, 17, 16, 200);
        join(x, 1, 16, 218);
        x.lose(0);
        x.out(4);
        join(x, 1, 16, 218);
        join(bare(), 0, 0, 200);
        join(with("d8" + "l009".repeat(4) + "l019".repeat(4)), 255, 255, 104);
        e.sentence(28, "BAD.");
        e.refused(with(FOUR), BAD, "join(16, 0)", y -> y.join(16, 0));
        e.refused(with(FOUR), BAD, "join(0, 16)", y -> y.join(0, 16));
        e.refused(with(FOUR), BAD, "join(-1, 0)", y -> y.join(-1, 0));
        e.refused(with(FOUR), BAD, "join(0, -1)", y -> y.join(0, -1));
        e.refused(with(FOUR), BAD, "join(TOP, 0)", y -> y.join(TOP, 0));
        e.refused(with(FOUR), BAD, "join(0, BOTTOM)", y -> y.join(0, BOTTOM));
        e.refused(with("d8" + "g000".repeat(8)), BAD, "join(256, 0) of eight", y -> y.join(256, 0));
        e.refused(with("d8" + "g000".repeat(8)), BAD, "join(0, 256) of eight", y -> y.join(0, 256));
        e.refused(bare(), BAD, "join(1, 0) without GLOVES", y -> y.join(1, 0));
        e.refused(bare(), BAD, "join(0, 1) without GLOVES", y -> y.join(0, 1));
    }
}
