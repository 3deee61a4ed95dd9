/** Compares answers with those that are due, prints the others, and ends a test. */
final class Checks {
    interface Call {
        Object answer();
    }

    private static int asked = 0;
    private static int wrong = 0;

    private Checks() {
    }

    static void due(String call, Object got, Object want) {
        asked++;
        if (!want.equals(got)) {
            wrong++;
            System.out.println(call + " answered " + got + ", due is " + want);
        }
    }

    /** The very class is compared: what the machine throws is often a class below the one that is due. */
    static void dueThrow(String call, Class<?> kind, Call made) {
        due(call, outcome(made), "throws " + kind.getSimpleName());
    }

    /** The call must throw, and everything that can be asked must be answered as before. */
    static void refuses(MarbleRamps x, String call, Class<?> kind, Call made) {
        String before = everything(x);
        dueThrow(call, kind, made);
        due("everything behind " + call, everything(x), before);
    }

    /** The call must answer so, and everything that can be asked must be answered as before. */
    static void dueUnchanged(MarbleRamps x, String call, Call made, Object want) {
        String before = everything(x);
        due(call, outcome(made), want);
        due("everything behind " + call, everything(x), before);
    }

    static Object outcome(Call made) {
        try {
            return made.answer();
        } catch (RuntimeException e) {
            return "throws " + e.getClass().getSimpleName();
        }
    }

    static String everything(MarbleRamps x) {
        StringBuilder all = new StringBuilder();
        all.append(x.columns()).append('x').append(x.rows()).append(" lost ").append(x.lost());
        for (int hopper = 0; hopper < 2; hopper++) {
            all.append(" hopper ").append(x.columnOf(hopper)).append(':').append(x.marblesIn(hopper));
        }
        for (int row = 0; row < x.rows(); row++) {
            all.append(" row");
            for (int column = 0; column < x.columns(); column++) {
                all.append(' ').append(x.partAt(row, column));
                all.append(x.leadsRight(row, column) ? 'R' : 'L').append(x.countAt(row, column));
            }
        }
        all.append(" bins");
        for (int column = 0; column < x.columns(); column++) {
            all.append(' ').append(x.binOf(column));
        }
        // The periods can't be asked, but they show in what would be.
        return all.append(" digest ").append(x.digest()).toString();
    }

    static void end() {
        System.out.println(asked + " answers, " + wrong + " not as due");
        if (wrong != 0 || asked == 0) {
            System.exit(1);
        }
    }
}
