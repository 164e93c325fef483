/** Promises 12 to 14, and what the terms tell of WARMTH and of PAIRS. */
final class EdgesOfGloves extends EdgePart {
    private static final String LETTERS = "gmeslt";

    EdgesOfGloves(Edges e) {
        super(e);
    }

    @Override
    void all() {
        termsThird();
        termsMitten();
        termsEither();
        termsLined();
        termsHands();
        termsPair();
        termsGood();
        termsStretch();
        promise12();
        promise12Refused();
        promise13Mitten();
        promise13Either();
        promise13String();
        promise13Lined();
        promise13Stretch();
        promise13Refused();
        promise14();
    }

    /** The WARMTH of a left GLOVE, WORN from never to 40 times. */
    private void warmths(String glove, int... due) {
        DrawerGloves x = with("d8" + glove + "g010");
        for (int wear = 0; wear <= 40; wear++) {
            e.same(glove + " worn " + wear, Desk.of(x, 0, 5), due[Math.min(wear, due.length - 1)]);
            x.wear(0, 1);
        }
    }

    private void termsThird() {
        e.sentence(Edges.TERMS, "A GLOVE gives so much WARMTH: as WARM as it is, less a third (cut) of its WEAR (0 at"
            + " least);");
        warmths("g000", 0);
        warmths("g001", 1, 1, 1, 0);
        warmths("g002", 2, 2, 2, 1, 1, 1, 0);
        warmths("g009", 9, 9, 9, 8, 8, 8, 7, 7, 7, 6, 6, 6, 5, 5, 5, 4, 4, 4, 3, 3, 3, 2, 2, 2, 1, 1, 1, 0);
        e.sentence(Edges.TERMS, "a STRING as a GLOVE.");
        warmths("s000", 0);
        warmths("s001", 1, 1, 1, 0);
        warmths("s004", 4, 4, 4, 3, 3, 3, 2, 2, 2, 1, 1, 1, 0);
    }

    private void termsMitten() {
        e.sentence(Edges.TERMS, "a MITTEN 2 more;");
        warmths("m000", 2);
        warmths("m001", 3, 3, 3, 2);
        warmths("m009", 11, 11, 11, 10, 10, 10, 9, 9, 9, 8, 8, 8, 7, 7, 7, 6, 6, 6, 5, 5, 5, 4, 4, 4, 3, 3, 3, 2);
    }

    private void termsEither() {
        e.sentence(Edges.TERMS, "an EITHER one (STRETCH, too) 1 less (0 at least);");
        for (char letter : new char[] {'e', 't'}) {
            warmths(letter + "000", 0);
            warmths(letter + "001", 0);
            warmths(letter + "002", 1, 1, 1, 0);
            warmths(letter + "009", 8, 8, 8, 7, 7, 7, 6, 6, 6, 5, 5, 5, 4, 4, 4, 3, 3, 3, 2, 2, 2, 1, 1, 1, 0);
        }
    }

    private void termsLined() {
        e.sentence(Edges.TERMS, "a LINED one 3 more than a GLOVE, while WEAR is below 6, then as a GLOVE;");
        warmths("l000", 3, 3, 3, 3, 3, 3, 0);
        warmths("l001", 4, 4, 4, 3, 3, 3, 0);
        warmths("l002", 5, 5, 5, 4, 4, 4, 0);
        warmths("l003", 6, 6, 6, 5, 5, 5, 1, 1, 1, 0);
        warmths("l009", 12, 12, 12, 11, 11, 11, 7, 7, 7, 6, 6, 6, 5, 5, 5, 4, 4, 4, 3, 3, 3, 2, 2, 2, 1, 1, 1, 0);
    }

    private void termsHands() {
        e.sentence(Edges.TERMS, "It goes on its HAND; an EITHER one (STRETCH, too) on any.");
        for (char a : LETTERS.toCharArray()) {
            for (char b : LETTERS.toCharArray()) {
                boolean any = "et".indexOf(a) >= 0 || "et".indexOf(b) >= 0;
                for (int hands = 0; hands < 4; hands++) {
                    String text = "d8" + a + "0" + hands / 2 + "0" + b + "0" + hands % 2 + "0";
                    boolean makes = any || hands / 2 != hands % 2;
                    e.same("a PAIR of '" + text + "'", with(text).pair(0, 1) == NONE ? 0 : 1, makes ? 1 : 0);
                }
            }
        }
    }

    private void pair(String gloves, int due) {
        DrawerGloves x = with("d8" + gloves);
        e.same("pair of " + gloves, x.pair(0, 1), due);
        e.same("pair of " + gloves + ", the other way", x.pair(1, 0), due);
    }

    private void termsPair() {
        e.sentence(Edges.TERMS, "Two unlike GLOVES make a PAIR, if one goes on the left, the other on the right HAND.");
        pair("g005g015", 10);
        pair("g005g005", NONE);
        pair("g015g015", NONE);
        pair("e005e005", 8);
        e.refused(with("d8e005"), BAD, "one that goes on both by itself", x -> x.pair(0, 0));
    }

    private void termsGood() {
        e.sentence(Edges.TERMS, "It is as GOOD as both WARMTHS together, less twice as many as their SORTS are apart (0"
            + " at least;");
        pair("g000g010", 0);
        pair("g009g019", 18);
        pair("g009g919", 0);
        pair("g909g019", 0);
        pair("m009m919", 4);
        pair("l009l019", 24);
        pair("g303g413", 4);
        pair("g001g111", 0);
        pair("g001g112", 1);
        pair("g001g110", 0);
        pair("g002g212", 0);
        pair("g002g213", 1);
        pair("e001g110", 0);
        DrawerGloves x = with("d8g001g112");
        Desk.wearOften(x, 0, 1, 2);
        e.same("worn twice", x.pair(0, 1), 1);
        x.wear(0, 1);
        e.same("worn thrice", x.pair(0, 1), 0);
    }

    private void termsStretch() {
        e.sentence(Edges.TERMS, "nothing less with a STRETCH one or two).");
        pair("t009g919", 17);
        pair("g909t019", 17);
        pair("t009e909", 16);
        pair("t009t909", 16);
        pair("t000t910", 0);
        pair("t000m910", 2);
        pair("e009g919", 0);
        pair("e009e909", 0);
    }

    private void promise12() {
        e.sentence(12, "Of a GLOVE: 0 the KIND, 1 the SORT, 2 the HAND, 3 how WARM, 4 WEAR, 5 its WARMTH, 6 where it is"
            + " (0 in the drawer, 1 LOST, 2 OUT), all told by asked(): 1.");
        DrawerGloves x = with("d8 l917 m018 g000 g000 g000 g000 g000 t919");
        Desk.wearOften(x, 0, 7, 6);
        int[][] due = {{4, 9, 1, 7, 6, 5, 0}, {1, 0, 1, 8, 0, 10, 0}, {5, 9, 1, 9, 6, 6, 0}};
        int[] which = {0, 1, 7};
        for (int k = 0; k < which.length; k++) {
            for (int what = 0; what <= 6; what++) {
                e.same("glove(" + which[k] + ", " + what + ")", x.glove(which[k], what), 1);
                e.same("told by glove(" + which[k] + ", " + what + ")", x.asked(), due[k][what]);
            }
        }
        e.same("in the drawer", Desk.of(x, 7, 6), 0);
        x.lose(7);
        e.same("LOST", Desk.of(x, 7, 6), 1);
        e.same("its WEAR", Desk.of(x, 7, 4), 6);
        x.back(7);
        e.same("BACK", Desk.of(x, 7, 6), 0);
        x.out(7);
        e.same("OUT", Desk.of(x, 7, 6), 2);
        e.same("its WEAR then", Desk.of(x, 7, 4), 6);
        x = with("d8g000g010");
        Desk.wearOften(x, 0, 1, 40);
        e.same("WEAR at most", Desk.of(x, 0, 4), 40);
    }

    private void promise12Refused() {
        e.sentence(12, "BAD.");
        e.refused(with("d8g000m010"), BAD, "glove(2, 0)", x -> x.glove(2, 0));
        e.refused(with("d8g000m010"), BAD, "glove(-1, 0)", x -> x.glove(-1, 0));
        e.refused(with("d8g000m010"), BAD, "glove(8, 0)", x -> x.glove(8, 0));
        e.refused(with("d8g000m010"), BAD, "glove(TOP, 0)", x -> x.glove(TOP, 0));
        e.refused(with("d8g000m010"), BAD, "glove(BOTTOM, 0)", x -> x.glove(BOTTOM, 0));
        e.refused(with("d8g000m010"), BAD, "glove(0, 7)", x -> x.glove(0, 7));
        e.refused(with("d8g000m010"), BAD, "glove(0, -1)", x -> x.glove(0, -1));
        e.refused(with("d8g000m010"), BAD, "glove(0, TOP)", x -> x.glove(0, TOP));
        e.refused(with("d8g000m010"), BAD, "glove(0, BOTTOM)", x -> x.glove(0, BOTTOM));
        e.refused(with("d8" + "g000".repeat(8)), BAD, "glove(8, 0) of eight", x -> x.glove(8, 0));
        e.refused(bare(), BAD, "glove(0, 0) of none", x -> x.glove(0, 0));
    }

    private void mark(DrawerGloves x, int i, int kind, int due) {
        e.aside(x, due, "mark(" + i + ", " + kind + ")", y -> y.mark(i, kind));
    }

    private void promise13Mitten() {
        e.sentence(13, "a MITTEN (LINED, too) how much warmer it is than a GLOVE would be,");
        DrawerGloves x = with("d8m000l010");
        for (int wear = 0; wear <= 10; wear++) {
            mark(x, 0, 1, 2);
            mark(x, 1, 1, wear < 6 ? 3 : 0);
            x.wear(0, 1);
        }
        x.lose(0);
        x.out(1);
        mark(x, 0, 1, 2);
        mark(x, 1, 1, 0);
    }

    private void promise13Either() {
        e.sentence(13, "an EITHER one (STRETCH, too) how many others of the drawer make a PAIR with it,");
        mark(with("d8e000"), 0, 2, 0);
        mark(with("d8t000"), 0, 2, 0);
        DrawerGloves x = with("d8 e000 g000 m010 e000 s010 l000 t000 t910");
        for (int i : new int[] {0, 3, 6, 7}) mark(x, i, 2, 7);
        x.lose(1);
        mark(x, 0, 2, 6);
        x.out(2);
        mark(x, 0, 2, 5);
        x.lose(0);
        mark(x, 0, 2, 5);
        mark(x, 3, 2, 4);
        x.out(0);
        mark(x, 0, 2, 5);
        for (int i : new int[] {3, 4, 5, 6, 7}) x.out(i);
        mark(x, 7, 2, 0);
    }

    private void promise13String() {
        e.sentence(13, "a STRING how many others of the drawer of its SORT there are,");
        mark(with("d8s000"), 0, 3, 0);
        mark(with("d8s300s410g210"), 0, 3, 0);
        DrawerGloves x = with("d8 s700 g700 m710 e700 s710 l700 t710 s700");
        mark(x, 0, 3, 7);
        mark(x, 7, 3, 7);
        x.lose(1);
        mark(x, 0, 3, 6);
        x.out(7);
        mark(x, 0, 3, 5);
        mark(x, 7, 3, 6);
        x.back(1);
        mark(x, 0, 3, 6);
    }

    private void promise13Lined() {
        e.sentence(13, "a LINED one how often it can be WORN yet till it is as a GLOVE,");
        DrawerGloves x = with("d8l000g010");
        for (int wear = 0; wear <= 12; wear++) {
            mark(x, 0, 4, wear < 6 ? 6 - wear : 0);
            x.wear(0, 1);
        }
        x.undo(5);
        mark(x, 0, 4, 1);
        x.lose(0);
        mark(x, 0, 4, 1);
        x.undo(0);
        mark(x, 0, 4, 6);
    }

    private void promise13Stretch() {
        e.sentence(13, "a STRETCH one how much more GOOD its PAIRS with others of the drawer, each by itself, are"
            + " together than they would be, were it an EITHER one.");
        mark(with("d8t000"), 0, 5, 0);
        mark(with("d8t505g505g515"), 0, 5, 0);
        mark(with("d8t009g019"), 0, 5, 0);
        mark(with("d8t009g119"), 0, 5, 2);
        mark(with("d8t009g819"), 0, 5, 16);
        mark(with("d8t009g919"), 0, 5, 17);
        mark(with("d8t000m910"), 0, 5, 2);
        mark(with("d8t000t910"), 0, 5, 0);
        mark(with("d8t009e909"), 0, 5, 16);
        mark(with("d8t009" + "g919".repeat(7)), 0, 5, 119);
        mark(with("d8g119g209t009"), 2, 5, 6);
        DrawerGloves x = with("d8t009g119g209");
        mark(x, 0, 5, 6);
        x.lose(1);
        mark(x, 0, 5, 4);
        x.out(0);
        mark(x, 0, 5, 4);
        x.out(2);
        mark(x, 0, 5, 0);
        e.sentence(13, "What a GLOVE that IS of a KIND tells:");
        x = with("d8 t009 l119");
        mark(x, 0, 2, 1);
        mark(x, 0, 5, 2);
        mark(x, 1, 1, 3);
        mark(x, 1, 4, 6);
    }

    private void promise13Refused() {
        e.sentence(13, "BAD: also KIND 0;");
        String six = "d8 g000 m000 e000 s000 l000 t000";
        for (int i = 0; i < 6; i++) {
            int glove = i;
            e.refused(with(six), BAD, "mark(" + i + ", 0)", x -> x.mark(glove, 0));
        }
        e.refused(with(six), BAD, "mark(0, 6)", x -> x.mark(0, 6));
        e.refused(with(six), BAD, "mark(0, -1)", x -> x.mark(0, -1));
        e.refused(with(six), BAD, "mark(0, TOP)", x -> x.mark(0, TOP));
        e.refused(with(six), BAD, "mark(0, BOTTOM)", x -> x.mark(0, BOTTOM));
        e.refused(with(six), BAD, "mark(6, 1)", x -> x.mark(6, 1));
        e.refused(with(six), BAD, "mark(-1, 1)", x -> x.mark(-1, 1));
        e.refused(bare(), BAD, "mark(0, 1) of none", x -> x.mark(0, 1));
        e.sentence(13, "UNLIKE.");
        String[] are = {"", "ml", "et", "s", "l", "t"};
        for (int kind = 1; kind <= 5; kind++) {
            for (int i = 0; i < 6; i++) {
                int k = kind;
                int glove = i;
                String call = "mark(" + i + ", " + kind + ")";
                if (are[kind].indexOf(LETTERS.charAt(i)) < 0) {
                    e.finds(with(six), UNLIKE, call, x -> x.mark(glove, k));
                } else {
                    e.same(call + " is none", with(six).mark(i, kind) >= 0 ? 1 : 0, 1);
                }
            }
        }
    }

    private void promise14() {
        e.sentence(14, "How GOOD a PAIR is (wherever they are).");
        DrawerGloves x = with("d8g307m413");
        int[][] where = {{0, 0}, {1, 0}, {1, 1}, {2, 1}, {2, 2}};
        for (int[] both : where) {
            x.undo(0);
            for (int i = 0; i < 2; i++) {
                if (both[i] == 1) x.lose(i);
                if (both[i] == 2) x.out(i);
            }
            e.aside(x, 10, "pair(0, 1)", y -> y.pair(0, 1));
            e.aside(x, 10, "pair(1, 0)", y -> y.pair(1, 0));
        }
        e.sentence(14, "NONE: they make none.");
        e.refused(with("d8g009g009"), NONE, "two left ones", y -> y.pair(0, 1));
        e.refused(with("d8s019l019"), NONE, "two right ones", y -> y.pair(1, 0));
        e.same("0 is not none", with("d8g000g010").pair(0, 1), 0);
        e.sentence(14, "BAD: also alike.");
        e.refused(with("d8e009g009"), BAD, "pair(0, 0)", y -> y.pair(0, 0));
        e.refused(with("d8e009g009"), BAD, "pair(1, 1)", y -> y.pair(1, 1));
        e.refused(with("d8e009g009"), BAD, "pair(0, 2)", y -> y.pair(0, 2));
        e.refused(with("d8e009g009"), BAD, "pair(2, 0)", y -> y.pair(2, 0));
        e.refused(with("d8e009g009"), BAD, "pair(0, -1)", y -> y.pair(0, -1));
        e.refused(with("d8e009g009"), BAD, "pair(-1, 0)", y -> y.pair(-1, 0));
        e.refused(with("d8e009g009"), BAD, "pair(TOP, BOTTOM)", y -> y.pair(TOP, BOTTOM));
        e.refused(bare(), BAD, "pair(0, 1) of none", y -> y.pair(0, 1));
    }
}
