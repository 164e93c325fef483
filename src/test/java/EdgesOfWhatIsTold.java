/** Promises 37 to 43: what is told. */
final class EdgesOfWhatIsTold extends EdgePart {
    private static final String TWO = "d2 g305 m417";

    EdgesOfWhatIsTold(Edges e) {
        super(e);
    }

    @Override
    void all() {
        promise37();
        promise37Stays();
        promise38And39();
        promise40();
        promise40Refused();
        promise41();
        promise42();
        promise43();
        promise43Wraps();
    }

    private void promise37() {
        e.sentence(37, "What the latest lay(), at(), mean(), glove(), good(), missed(), wished(), room(), test()");
        DrawerGloves x = with("d2 g305 m417");
        Desk.lay(x, 0, 1, 12);
        x.lay(0, 0, 50);
        e.same("lay()", x.asked(), 1);
        x.at(0, 1);
        e.same("at()", x.asked(), 12);
        x.mean(0);
        e.same("mean()", x.asked(), 31);
        x.glove(1, 5);
        e.same("glove()", x.asked(), 9);
        x.good(3);
        e.same("good()", x.asked(), 1);
        x.missed();
        e.same("missed()", x.asked(), 12);
        x.room();
        e.same("room()", x.asked(), 0);
        x.row(1, 0);
        x.test(0, 1);
        e.same("test()", x.asked(), 2);
        x.lose(0);
        x.wished();
        e.same("wished()", x.asked(), 12);
        x.good(0);
        e.same("good() of none", x.asked(), 0);
        e.sentence(37, "0 before.");
        e.same("of a new object", bare().asked(), 0);
        e.same("after a DRAWER is made", with(TWO).asked(), 0);
    }

    /** A DRAWER whose asked() is 5, with a ROW 0 of no places. */
    private static DrawerGloves five() {
        DrawerGloves x = with("d2 g305 g407");
        x.row(0, 0);
        x.glove(0, 3);
        return x;
    }

    private void promise37Stays() {
        e.sentence(37, "that was not refused (nor answered NONE) told;");
        e.refused(five(), BAD, "lay() refused", x -> x.lay(6, 0, 1));
        e.finds(five(), NOTHING, "lay() of a missing ROW", x -> x.lay(1, 0, 1));
        e.finds(five(), BEYOND, "lay() beyond", x -> x.lay(0, 0, 1));
        e.refused(five(), BAD, "at() refused", x -> x.at(6, 0));
        e.finds(five(), NOTHING, "at() of a missing ROW", x -> x.at(1, 0));
        e.finds(five(), BEYOND, "at() beyond", x -> x.at(0, 0));
        e.refused(five(), BAD, "mean() refused", x -> x.mean(6));
        e.finds(five(), NOUGHT, "mean() of none", x -> x.mean(0));
        e.refused(five(), BAD, "glove() refused", x -> x.glove(0, 7));
        e.refused(five(), BAD, "good() refused", x -> x.good(4));
        e.refused(five(), NONE, "wished() NONE", x -> x.wished());
        e.refused(five(), BAD, "test() refused", x -> x.test(2, 0));
        e.finds(five(), NOTHING, "test() of a missing ROW", x -> x.test(0, 1));
        DrawerGloves x = five();
        x.out(0);
        x.out(1);
        e.refused(x, NONE, "missed() NONE", y -> y.missed());
        x = with("d1g305");
        x.row(0, 0);
        x.glove(0, 3);
        e.refused(x, NONE, "test() NONE", y -> y.test(0, 0));
        e.refused(bare(), STATE, "missed() refused", y -> y.missed());
        e.refused(bare(), STATE, "wished() refused", y -> y.wished());
        e.refused(bare(), STATE, "room() refused", y -> y.room());
        Edges.Call[] others = {y -> y.pair(0, 1), y -> y.pairs(1), y -> y.days(0, 1), y -> y.join(1, 2),
            y -> y.sorts(0, 0), y -> y.hands(0, 0), y -> y.kinds(0, 0), y -> y.duel(1), y -> y.odds(1, 1, 1),
            y -> y.mid(1, 1), y -> y.lots(1, 1), y -> y.lose(0), y -> y.out(1), y -> y.undo(0), y -> y.keep(0),
            y -> y.row(2, 2), y -> y.tear(0), y -> y.text(1, 1), y -> y.put(0, 0, 100), y -> y.fault(0),
            y -> y.drawer(0), y -> y.count(3), y -> y.findings(1), y -> (int) y.digest()};
        for (int k = 0; k < others.length; k++) {
            DrawerGloves y = five();
            others[k].on(y);
            e.same("another call, " + k, y.asked(), 5);
        }
    }

    private void promise38And39() {
        e.sentence(38, "The upper number that was told last; 0 before.");
        e.same("of a new object", bare().upper(), 0);
        DrawerGloves x = with(TWO);
        e.same("of a DRAWER", x.upper(), 0);
        x.odds(1, 3, 0);
        e.same("by odds()", x.upper(), 3);
        x.mid(3, 0);
        e.same("by mid()", x.upper(), 9);
        x.drawer(0);
        x.odds(5, 0, 0);
        x.mid(0, 13);
        e.same("it stays", x.upper(), 9);
        e.sentence(39, "Its lower number; 1 before.");
        e.same("of a new object", bare().lower(), 1);
        x = with(TWO);
        e.same("of a DRAWER", x.lower(), 1);
        x.odds(1, 3, 0);
        e.same("by odds()", x.lower(), 4);
        x.mid(3, 0);
        e.same("by mid()", x.lower(), 1);
        x.odds(1, 3, 0);
        x.odds(5, 0, 0);
        x.mid(0, 13);
        e.same("it stays", x.lower(), 4);
        x.odds(1, 12, 12);
        e.same("of 0", x.lower(), 1);
        e.sentence(Edges.TERMS, "Chances, means are told by upper(), lower(), in lowest terms, the lower number above 0"
            + " (0 by 1).");
        e.same("upper() of 0", x.upper(), 0);
        for (int p = 0; p <= 12; p++) {
            x = with("d8 g005 s015");
            x.odds(1, p, 0);
            int shared = shared(12 - p, 12);
            e.same("upper() of " + (12 - p) + " of 12", x.upper(), (12 - p) / shared);
            e.same("lower() of " + (12 - p) + " of 12", x.lower(), 12 / shared);
            x.mid(p, 12);
            int shares = shared(10 * (12 - p), 12);
            e.same("upper() of 10 by " + (12 - p) + " of 12", x.upper(), 10 * (12 - p) / shares);
            e.same("lower() of 10 by " + (12 - p) + " of 12", x.lower(), 12 / shares);
        }
    }

    private static int shared(int a, int b) {
        int shared = 1;
        for (int k = 1; k <= b; k++) if (a % k == 0 && b % k == 0) shared = k;
        return shared;
    }

    private void counts(DrawerGloves x, int... due) {
        for (int what = 0; what < due.length; what++) {
            int which = what;
            e.aside(x, due[what], "count(" + what + ")", y -> y.count(which));
        }
    }

    private void promise40() {
        e.sentence(40, "0 GLOVES, 1 ROOM (0 without GLOVES), 2 DEEDS, 3 GLOVES in the drawer (bits), 4 LOST (bits), 5 OUT"
            + " (bits), 6 all WEAR, 7 MITTENS (LINED ones, too), 8 ROWS, 9 TEXTS that are there, 10 kept DRAWERS.");
        counts(bare(), 0, 0, 0, 0, 0, 0, 0, 0, 0, 0, 0);
        counts(with("d1g000"), 1, 1, 0, 1, 0, 0, 0, 0, 0, 1, 0);
        counts(with("d8" + "m000l010".repeat(4)), 8, 8, 0, 255, 0, 0, 0, 8, 0, 1, 0);
        counts(with("d3 g000 m000 e000 s000 l000 t000"), 6, 3, 0, 63, 0, 0, 0, 2, 0, 1, 0);
        DrawerGloves x = with("d8" + "m000l010".repeat(4));
        for (int i = 0; i < 8; i++) x.lose(i);
        counts(x, 8, 8, 8, 0, 255, 0, 0, 8, 0, 1, 0);
        for (int i = 0; i < 8; i++) x.out(i);
        counts(x, 8, 8, 16, 0, 0, 255, 0, 8, 0, 1, 0);
        x = with("d8g000g010");
        Desk.wearOften(x, 0, 1, 40);
        for (int k = 0; k <= 2; k++) x.keep(k);
        for (int r = 0; r <= 5; r++) x.row(r, r);
        for (int t = 1; t <= 3; t++) x.text(t, t - 1);
        counts(x, 2, 8, 40, 3, 0, 0, 80, 0, 6, 4, 3);
        x.undo(1);
        for (int r = 0; r <= 5; r++) x.tear(r);
        counts(x, 2, 8, 1, 3, 0, 0, 2, 0, 0, 4, 3);
        x = bare();
        Desk.write(x, 0, "d8");
        x.drawer(0);
        counts(x, 0, 0, 0, 0, 0, 0, 0, 0, 0, 1, 0);
        Desk.write(x, 1, "d8x");
        x.fault(1);
        e.same("ROOM without GLOVES, though a TEXT tells it", x.count(1), 0);
        e.sentence(Edges.TERMS, "Sets (of GLOVES, KINDS, SORTS) are told by bits.");
        x = with("d8" + "g000".repeat(8));
        for (int i = 0; i < 8; i++) {
            x.undo(0);
            x.lose(i);
            e.same("the bit of " + i, x.count(4), 1 << i);
        }
    }

    private void promise40Refused() {
        e.sentence(40, "BAD.");
        e.refused(with(TWO), BAD, "count(11)", x -> x.count(11));
        e.refused(with(TWO), BAD, "count(-1)", x -> x.count(-1));
        e.refused(with(TWO), BAD, "count(TOP)", x -> x.count(TOP));
        e.refused(with(TWO), BAD, "count(BOTTOM)", x -> x.count(BOTTOM));
        e.refused(bare(), BAD, "count(11) of a new object", x -> x.count(11));
    }

    private void promise41() {
        e.sentence(41, "The latest FINDING (0 before any).");
        e.same("of a new object", bare().finding(), 0);
        DrawerGloves x = five();
        e.same("before any", x.finding(), 0);
        x.mark(0, 5);
        e.same("UNLIKE", x.finding(), 3);
        x.mean(0);
        e.same("NOUGHT", x.finding(), 4);
        x.row(0, -1);
        e.same("SIZE", x.finding(), 5);
        x.at(0, 0);
        e.same("BEYOND", x.finding(), 2);
        x.on(0);
        e.same("NOTHING", x.finding(), 1);
        e.refused(x, BAD, "BAD leaves it", y -> y.row(6, 0));
        e.refused(x, STATE, "STATE leaves it", y -> y.back(0));
        e.refused(x, NONE, "NONE leaves it", y -> y.wished());
        x.drawer(0);
        e.same("a DRAWER anew leaves it", x.finding(), 1);
    }

    private void promise42() {
        e.sentence(42, "How often a FINDING (1 .. 5) was answered.");
        for (int f = 1; f <= 5; f++) e.same("findings(" + f + ") at first", bare().findings(f), 0);
        DrawerGloves x = five();
        Edges.Call[] find = {y -> y.tear(5), y -> y.at(0, 0), y -> y.mark(0, 1), y -> y.mean(0), y -> y.text(0, -1)};
        for (int f = 1; f <= 5; f++) {
            int times = 2 * f + 1;
            for (int k = 0; k < times; k++) find[f - 1].on(x);
            e.same("findings(" + f + ")", x.findings(f), times);
        }
        for (int f = 1; f <= 5; f++) e.same("findings(" + f + ") at last", x.findings(f), 2 * f + 1);
        e.sentence(42, "BAD.");
        e.refused(five(), BAD, "findings(0)", y -> y.findings(0));
        e.refused(five(), BAD, "findings(6)", y -> y.findings(6));
        e.refused(five(), BAD, "findings(-1)", y -> y.findings(-1));
        e.refused(five(), BAD, "findings(TOP)", y -> y.findings(TOP));
        e.refused(five(), BAD, "findings(BOTTOM)", y -> y.findings(BOTTOM));
    }

    private static long digest(long... all) {
        long h = 17;
        for (long v : all) h = 31 * h + v;
        return h;
    }

    private void promise43() {
        e.sentence(43, "h = 17; then h = 31 h + v for each v (of a call that tells by asked(): what it tells, not the 1"
            + " that it answers; asked() stays): count() 0 to 10; of each GLOVE glove() 0 to 6; of each kept DRAWER how"
            + " many DEEDS (-1: missing); of each ROW its size (-1: missing) and places, of each TEXT likewise.");
        e.same("of a new object", bare().digest(), digest(0, 0, 0, 0, 0, 0, 0, 0, 0, 0, 0, -1, -1, -1,
            -1, -1, -1, -1, -1, -1, -1, -1, -1, -1));
        DrawerGloves x = bare();
        for (int r = 0; r <= 5; r++) x.row(r, 0);
        for (int t = 0; t <= 3; t++) x.text(t, 0);
        e.same("of all without places", x.digest(), digest(0, 0, 0, 0, 0, 0, 0, 0, 6, 4, 0, -1, -1, -1,
            0, 0, 0, 0, 0, 0, 0, 0, 0, 0));
        x = with("d1l919");
        x.keep(1);
        x.lose(0);
        x.keep(2);
        x.text(0, 1);
        x.glove(0, 1);
        e.same("of a kept one without DEEDS", x.digest(), digest(1, 1, 1, 0, 1, 0, 0, 1, 0, 1, 2,
            4, 9, 1, 9, 0, 12, 1, -1, 0, 1, -1, -1, -1, -1, -1, -1, 1, 32, -1, -1, -1));
        e.same("asked() stays", x.asked(), 9);
        e.same("the same again", x.digest(), x.digest());
    }

    private void promise43Wraps() {
        e.sentence(43, "h = 31 h + v");
        DrawerGloves x = bare();
        java.math.BigInteger h = java.math.BigInteger.valueOf(17);
        long[] first = {0, 0, 0, 0, 0, 0, 0, 0, 6, 1, 0, -1, -1, -1};
        for (long v : first) h = h.multiply(java.math.BigInteger.valueOf(31)).add(java.math.BigInteger.valueOf(v));
        for (int r = 0; r <= 5; r++) {
            x.row(r, 40);
            h = h.multiply(java.math.BigInteger.valueOf(31)).add(java.math.BigInteger.valueOf(40));
            for (int i = 0; i < 40; i++) {
                int v = i % 2 == 0 ? TOP - i : BOTTOM + i;
                x.lay(r, i, v);
                h = h.multiply(java.math.BigInteger.valueOf(31)).add(java.math.BigInteger.valueOf(v));
            }
        }
        x.text(3, 60);
        for (long v : new long[] {-1, -1, -1, 60}) {
            h = h.multiply(java.math.BigInteger.valueOf(31)).add(java.math.BigInteger.valueOf(v));
        }
        for (int i = 0; i < 60; i++) {
            x.put(3, i, -128 + 4 * i);
            h = h.multiply(java.math.BigInteger.valueOf(31)).add(java.math.BigInteger.valueOf(-128 + 4 * i));
        }
        e.same("of 300 places, wrapped around", x.digest(), h.longValue());
    }
}
