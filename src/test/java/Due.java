/** Counts and prints the answers that are not the ones that are due. */
final class Due {
    private int wrong;
    private int asked;

    void same(String call, long got, long want) {
        asked++;
        if (got != want) {
            wrong++;
            System.out.println(call + " answered " + got + ", due is " + want);
        }
    }

    void same(String call, String got, String want) {
        asked++;
        if (!got.equals(want)) {
            wrong++;
            System.out.println(call + " answered " + got + ", due is " + want);
        }
    }

    /** What number() answers, or the name of what it throws. */
    static String number(DrawerHall hall, int drawer, int kind, int i) {
        try {
            return Long.toString(hall.number(drawer, kind, i));
        } catch (RuntimeException e) {
            return e.getClass().getSimpleName();
        }
    }

    void end() {
        System.out.println(asked + " answers, " + wrong + " of them wrong");
        if (wrong != 0) {
            System.exit(1);
        }
    }
}
