/** Counts the answers that are not as due, and prints them; and makes objects to ask. */
final class Check {
    static final int NONE = -1, UNKNOWN = -101, OUTSIDE = -102, STATE = -103, FULL = -104;

    private int made;
    private int wrong;
    private String about = "";

    void promise(int number) {
        about = "promise " + number + ": ";
    }

    void same(String call, long got, long due) {
        made++;
        if (got != due) {
            wrong++;
            System.out.println(about + call + " answered " + got + ", due is " + due);
        }
    }

    void holds(String what, boolean isSo) {
        made++;
        if (!isSo) {
            wrong++;
            System.out.println(about + "not so: " + what);
        }
    }

    int wrong() {
        return wrong;
    }

    void end() {
        System.out.println(made + " checks, " + wrong + " wrong");
        if (wrong != 0 || made == 0) {
            System.exit(1);
        }
    }

    /** Up to eight letters from a place of a text on, as letters() takes them. */
    static long bytes(String text, int from) {
        long w = 0;
        for (int i = Math.min(text.length(), from + 8) - 1; i >= from; i--) {
            w = w << 8 | text.charAt(i);
        }
        return w;
    }

    static void write(FeltByTwin x, String text) {
        for (int from = 0; from < text.length(); from += 8) {
            x.letters(bytes(text, from));
        }
    }

    /** A new object that has read a text as births. */
    FeltByTwin with(String births) {
        FeltByTwin x = new FeltByTwin();
        write(x, births);
        same("births() of " + births, x.births(), births.split(",").length);
        return x;
    }
}
