/** Lays TEXTS, DRAWERS and ROWS before a test's own calls. */
final class Desk {
    private Desk() {
    }

    static void write(DrawerGloves x, int t, String text) {
        x.text(t, text.length());
        for (int i = 0; i < text.length(); i++) x.put(t, i, text.charAt(i));
    }

    static DrawerGloves with(String text) {
        DrawerGloves x = new DrawerGloves();
        write(x, 0, text);
        if (x.drawer(0) < 1) throw new IllegalArgumentException("no DRAWER: " + text);
        return x;
    }

    static void lay(DrawerGloves x, int r, int... places) {
        x.row(r, places.length);
        for (int i = 0; i < places.length; i++) x.lay(r, i, places[i]);
    }

    static int place(DrawerGloves x, int r, int i) {
        return x.at(r, i) == 1 ? x.asked() : -999;
    }

    static int of(DrawerGloves x, int i, int what) {
        return x.glove(i, what) == 1 ? x.asked() : -999;
    }

    /** A ROW's places as decimal text, so that a whole ROW is compared at once. */
    static String row(DrawerGloves x, int r) {
        StringBuilder all = new StringBuilder();
        for (int i = 0; x.at(r, i) == 1; i++) all.append(x.asked()).append(' ');
        return all.toString().trim();
    }

    static void wearOften(DrawerGloves x, int i, int j, int times) {
        for (int k = 0; k < times; k++) x.wear(i, j);
    }
}
