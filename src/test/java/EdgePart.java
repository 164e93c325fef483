/** A part of the document whose sentences are tried one by one. */
abstract class EdgePart {
    static final int BAD = -1, FULL = -2, FINDING = -3, STATE = -4, SPENT = -6, NONE = -9;
    static final int NOTHING = 1, BEYOND = 2, UNLIKE = 3, NOUGHT = 4, SIZE = 5;
    static final int TOP = Integer.MAX_VALUE, BOTTOM = Integer.MIN_VALUE;

    final Edges e;

    EdgePart(Edges e) {
        this.e = e;
    }

    abstract void all();

    static DrawerGloves bare() {
        return new DrawerGloves();
    }

    static DrawerGloves with(String text) {
        return Desk.with(text);
    }
}
