/** Counts what was as due; the tests share it. */
final class Checks {
    private final String title;
    private int right;
    private int wrong;

    Checks(String title) {
        this.title = title;
    }

    void same(String what, long got, long due) {
        if (got == due) {
            right++;
            return;
        }
        wrong++;
        if (wrong <= 40) System.out.println(title + ": " + what + " answered " + got + ", due is " + due);
    }

    void same(String what, String got, String due) {
        if (!got.equals(due)) System.out.println(title + ": " + what + " is '" + got + "', due is '" + due + "'");
        same(what, got.equals(due) ? 1 : 0, 1);
    }

    void finding(String what, DrawerGloves x, int got, int due) {
        same(what, got, DrawerGloves.FINDING);
        same(what + ", finding()", x.finding(), due);
    }

    int wrong() {
        return wrong;
    }

    void end() {
        System.out.println(title + ": " + right + " checks as due, " + wrong + " not");
        if (wrong != 0 || right == 0) System.exit(1);
    }
}
