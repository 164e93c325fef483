import java.util.ArrayList;
import java.util.List;

/** What the document tells of all calls: answers, their order, what stays; how much there can be of each. */
final class EdgesOfTerms extends EdgePart {
    private static final int[] EDGES = {BOTTOM, -1, 0, 1, 5, 12, TOP};

    EdgesOfTerms(Edges e) {
        super(e);
    }

    @Override
    void all() {
        answers();
        badAhead();
        badAheadOfFull();
        stateAhead();
        none();
        staysAsItIs();
        anyNumbers();
        findings();
        howMany();
        mostCalls();
    }

    private void answers() {
        e.sentence(Edges.TERMS, "BAD -1 (a number that is none, or not as told), FULL -2, STATE -4 (not now), SPENT -6"
            + " (more than told), FINDING -3 (finding() tells which)");
        e.same("BAD", DrawerGloves.BAD, -1);
        e.same("FULL", DrawerGloves.FULL, -2);
        e.same("FINDING", DrawerGloves.FINDING, -3);
        e.same("STATE", DrawerGloves.STATE, -4);
        e.same("SPENT", DrawerGloves.SPENT, -6);
        e.sentence(Edges.TERMS, "ANSWERS.");
        e.same("NONE", DrawerGloves.NONE, -9);
    }

    private void badAhead() {
        e.sentence(Edges.TERMS, "Refused is, the first of these that fits, in this order: BAD");
        e.refused(bare(), BAD, "row(6, -1), SIZE", x -> x.row(6, -1));
        e.refused(bare(), BAD, "text(4, -1), SIZE", x -> x.text(4, -1));
        e.refused(bare(), BAD, "on(3), NOTHING", x -> x.on(3));
        e.refused(bare(), BAD, "keep(3), STATE", x -> x.keep(3));
        e.refused(bare(), BAD, "pairs(6), STATE", x -> x.pairs(6));
        e.refused(bare(), BAD, "days(4, 0), STATE", x -> x.days(4, 0));
        e.refused(bare(), BAD, "days(0, 6), STATE", x -> x.days(0, 6));
        e.refused(bare(), BAD, "duel(7), STATE", x -> x.duel(7));
        e.refused(bare(), BAD, "odds(5, 0, 0), STATE", x -> x.odds(5, 0, 0));
        e.refused(bare(), BAD, "mid(13, 0), STATE", x -> x.mid(13, 0));
        e.refused(bare(), BAD, "lots(21, 1), STATE", x -> x.lots(21, 1));
        e.refused(bare(), BAD, "sorts(0, 0), NOTHING", x -> x.sorts(0, 0));
        e.refused(bare(), BAD, "mark(0, 1), UNLIKE", x -> x.mark(0, 1));
        e.refused(with("d8g000"), BAD, "mark(0, 6), UNLIKE", x -> x.mark(0, 6));
        e.refused(with("d8g000"), BAD, "mark(0, -1), UNLIKE", x -> x.mark(0, -1));
    }

    /** One that is LOST, a STRING, 40 DEEDS. */
    private static DrawerGloves full(int room) {
        DrawerGloves x = with("d" + room + " g309 g319 g309 s309");
        x.lose(2);
        Desk.wearOften(x, 0, 1, 39);
        return x;
    }

    private void badAheadOfFull() {
        e.sentence(Edges.TERMS, "Refused is, the first of these that fits, in this order: BAD");
        e.refused(full(8), BAD, "wear(0, 0), FULL", x -> x.wear(0, 0));
        e.refused(full(8), BAD, "lose(4), FULL", x -> x.lose(4));
        e.refused(full(8), BAD, "back(4), FULL", x -> x.back(4));
        e.refused(full(8), BAD, "out(4), FULL", x -> x.out(4));
        e.refused(full(8), BAD, "lots(1, 0), FULL", x -> x.lots(1, 0));
    }

    private void stateAhead() {
        e.sentence(Edges.TERMS, "unless a call says so otherwise.");
        e.refused(full(8), STATE, "wear(0, 2): FULL last", x -> x.wear(0, 2));
        e.refused(full(8), STATE, "lose(3): FULL last", x -> x.lose(3));
        e.refused(full(8), STATE, "back(0): FULL last", x -> x.back(0));
        e.refused(full(1), STATE, "back(0): STATE ahead of SPENT", x -> x.back(0));
        e.refused(full(1), SPENT, "back(2): FULL last", x -> x.back(2));
        DrawerGloves thrown = full(8);
        thrown.undo(39);
        thrown.out(0);
        e.refused(thrown, STATE, "out(0): FULL last", x -> x.out(0));
        e.finds(bare(), SIZE, "copy(0, 0, 1, 0, -1): SIZE ahead of NOTHING", x -> x.copy(0, 0, 1, 0, -1));
        e.finds(bare(), NOTHING, "drawer(0): NOTHING ahead of STATE", x -> x.drawer(0));
    }

    private void none() {
        e.sentence(Edges.TERMS, "NONE -9 (a ROW that something was to come to stays as it is then).");
        DrawerGloves x = with("d8 g009 g009");
        Desk.lay(x, 0, 7, 8, 9);
        e.refused(x, NONE, "days() with a ROW", y -> y.days(3, 0));
        e.same("its places", Desk.row(x, 0), "7 8 9");
        e.refused(x, NONE, "days() with a missing ROW", y -> y.days(3, 1));
        e.finds(x, NOTHING, "it is missing", y -> y.tear(1));
    }

    /** One that has lived: ROWS, TEXTS, kept ones, FINDINGS, chances, one LOST, one OUT, no more ROOM. */
    private static DrawerGloves rich() {
        DrawerGloves x = with("d4 g309 m417 e205 s108 l514 t916");
        x.wear(0, 1);
        x.wear(2, 5);
        x.keep(1);
        x.lose(0);
        x.out(4);
        Desk.lay(x, 0, 1, 6, 2, 5);
        Desk.lay(x, 3, 4);
        x.row(4, 0);
        x.odds(1, 5, 7);
        x.mean(4);
        x.at(0, 3);
        return x;
    }

    private void staysAsItIs() {
        e.sentence(Edges.TERMS, "What is refused changes nothing but finding(), findings().");
        e.refused(rich(), BAD, "BAD", x -> x.row(0, 41));
        e.refused(full(8), FULL, "FULL", x -> x.wear(0, 1));
        e.refused(rich(), STATE, "STATE", x -> x.wear(0, 1));
        e.refused(rich(), SPENT, "SPENT", x -> x.back(0));
        e.finds(rich(), SIZE, "SIZE", x -> x.row(0, -1));
        e.finds(rich(), NOTHING, "NOTHING", x -> x.copy(0, 0, 1, 0, 1));
        e.finds(rich(), BEYOND, "BEYOND", x -> x.copy(0, 0, 3, 0, 2));
        e.finds(rich(), NOUGHT, "NOUGHT", x -> x.mean(4));
        e.finds(rich(), UNLIKE, "UNLIKE", x -> x.mark(0, 1));
    }

    /** Every call with every choice of these numbers: it ends, and what it refuses leaves all as it was. */
    private void anyNumbers() {
        for (int start = 0; start < 3; start++) {
            for (Edges.Call call : calls()) {
                DrawerGloves x = start == 0 ? bare() : start == 1 ? rich() : full(1);
                DrawerGloves like = start == 0 ? bare() : start == 1 ? rich() : full(1);
                int got = call.on(like);
                if (got >= 0) continue;
                if (got == FINDING) e.finds(x, like.finding(), "a call with any numbers", call);
                else e.refused(x, got, "a call with any numbers", call);
            }
        }
    }

    private static List<Edges.Call> calls() {
        List<Edges.Call> all = new ArrayList<>();
        for (int a : EDGES) {
            oneNumber(all, a);
            for (int b : EDGES) {
                twoNumbers(all, a, b);
                for (int c : EDGES) {
                    all.add(x -> x.lay(a, b, c));
                    all.add(x -> x.put(a, b, c));
                    all.add(x -> x.odds(a, b, c));
                    all.add(x -> x.copy(0, a, 3, b, c));
                    all.add(x -> x.copy(a, b, c, 0, 1));
                }
            }
        }
        return all;
    }

    private static void oneNumber(List<Edges.Call> all, int a) {
        all.add(x -> x.tear(a));
        all.add(x -> x.mean(a));
        all.add(x -> x.fault(a));
        all.add(x -> x.drawer(a));
        all.add(x -> x.lose(a));
        all.add(x -> x.back(a));
        all.add(x -> x.out(a));
        all.add(x -> x.undo(a));
        all.add(x -> x.keep(a));
        all.add(x -> x.on(a));
        all.add(x -> x.good(a));
        all.add(x -> x.pairs(a));
        all.add(x -> x.duel(a));
        all.add(x -> x.count(a));
        all.add(x -> x.findings(a));
    }

    private static void twoNumbers(List<Edges.Call> all, int a, int b) {
        all.add(x -> x.row(a, b));
        all.add(x -> x.at(a, b));
        all.add(x -> x.text(a, b));
        all.add(x -> x.glove(a, b));
        all.add(x -> x.mark(a, b));
        all.add(x -> x.pair(a, b));
        all.add(x -> x.wear(a, b));
        all.add(x -> x.days(a, b));
        all.add(x -> x.join(a, b));
        all.add(x -> x.sorts(a, b));
        all.add(x -> x.hands(a, b));
        all.add(x -> x.kinds(a, b));
        all.add(x -> x.test(a, b));
        all.add(x -> x.mid(a, b));
        all.add(x -> x.lots(a, b));
    }

    private void findings() {
        e.sentence(Edges.TERMS, "FINDINGS: 1 NOTHING (a ROW, a TEXT, a kept DRAWER that is missing),");
        e.finds(rich(), 1, "a ROW", x -> x.tear(1));
        e.finds(rich(), 1, "a TEXT", x -> x.fault(1));
        e.finds(rich(), 1, "a kept DRAWER", x -> x.on(0));
        e.sentence(Edges.TERMS, "2 BEYOND (a place that there is not),");
        e.finds(rich(), 2, "of a ROW", x -> x.at(3, 1));
        e.finds(rich(), 2, "of a TEXT", x -> x.put(0, 60, 1));
        e.finds(rich(), 2, "of many", x -> x.copy(0, 0, 3, 0, 2));
        e.sentence(Edges.TERMS, "3 UNLIKE (a GLOVE of another KIND; a number that is none),");
        e.finds(rich(), 3, "a GLOVE of another KIND", x -> x.mark(0, 1));
        DrawerGloves y = rich();
        y.lay(0, 0, 6);
        e.finds(y, 3, "a number that is none", x -> x.kinds(0, 0));
        e.sentence(Edges.TERMS, "4 NOUGHT (shared among none),");
        e.finds(rich(), 4, "a mean", x -> x.mean(4));
        e.sentence(Edges.TERMS, "5 SIZE (fewer than none; not as many as due).");
        e.finds(rich(), 5, "fewer than none", x -> x.row(0, -1));
        e.finds(rich(), 5, "not as many as due", x -> x.kinds(0, 3));
    }

    private void howMany() {
        e.sentence(Edges.TERMS, "1 ROWS 0 .. 5 are rows of 0 to 40 ints, TEXTS 0 .. 3 rows of 0 to 60 bytes, or missing"
            + " (at first).");
        DrawerGloves x = bare();
        for (int r = 0; r <= 5; r++) {
            int row = r;
            e.finds(x, NOTHING, "ROW " + r + " at first", y -> y.mean(row));
        }
        for (int t = 0; t <= 3; t++) {
            int text = t;
            e.finds(x, NOTHING, "TEXT " + t + " at first", y -> y.fault(text));
        }
        for (int r = 0; r <= 5; r++) e.same("ROW " + r + " of 40", x.row(r, 40), 40);
        for (int t = 0; t <= 3; t++) e.same("TEXT " + t + " of 60", x.text(t, 60), 60);
        e.refused(x, BAD, "ROW 6", y -> y.row(6, 0));
        e.refused(x, BAD, "TEXT 4", y -> y.text(4, 0));
        e.refused(x, BAD, "41 ints", y -> y.row(5, 41));
        e.refused(x, BAD, "61 bytes", y -> y.text(3, 61));
        e.sentence(Edges.TERMS, "2 All GLOVES are in the drawer at first");
        e.same("all", with("d1" + "g000".repeat(8)).count(3), 255);
        e.sentence(Edges.TERMS, "A DRAWER (without GLOVES at first) is a TEXT:");
        e.same("GLOVES", bare().count(0), 0);
        e.refused(bare(), STATE, "room() at first", y -> y.room());
    }

    private void mostCalls() {
        e.sentence(Edges.TERMS, "An object is used for at most 512 calls after it has been made;");
        DrawerGloves x = with("d8" + "e109t918".repeat(4));
        int calls = 2 + 34;
        int due = x.duel(6);
        for (calls++; calls < 510; calls++) {
            if (x.duel(6) != due) e.same("call " + calls, 0, 1);
        }
        e.same("the 511th call", x.days(3, 0), 48);
        e.same("the 512th call", x.duel(6), due);
        x = bare();
        for (calls = 0; calls < 511; calls++) x.tear(0);
        e.same("the 512th call", x.findings(1), 511);
    }
}
