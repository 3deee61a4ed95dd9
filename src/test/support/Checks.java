import java.util.List;

/** Compares answers with those that are due, prints the others, and ends a test. */
final class Checks {
    interface Call {
        Object answer();
    }

    interface ObjectCall {
        Object answer(MarbleRamps x);
    }

    interface NumberCall {
        Object answer(MarbleRamps x, int number);
    }

    interface PlaceCall {
        Object answer(MarbleRamps x, int row, int column);
    }

    private static final Class<?> NO_INDEX = IndexOutOfBoundsException.class;
    private static final Class<?> NO_ARGUMENT = IllegalArgumentException.class;

    private static int asked = 0;
    private static int wrong = 0;
    private static int sentences = 0;
    private static String sentence = "";

    private Checks() {
    }

    static void due(String call, Object got, Object want) {
        asked++;
        if (!want.equals(got)) {
            wrong++;
            System.out.println(sentence + call + " answered " + got + ", due is " + want);
        }
    }

    /** A test of one sentence of the document: it must ask something, and what it throws ends this test alone. */
    static void sentence(String words, Runnable test) {
        int before = asked;
        sentence = "[" + words + "] ";
        sentences++;
        try {
            test.run();
        } catch (RuntimeException e) {
            wrong++;
            System.out.println(sentence + "the test ended with " + e);
        }
        if (asked == before) {
            wrong++;
            System.out.println(sentence + "nothing was asked");
        }
        sentence = "";
    }

    /** The very class is compared: what the machine throws is often a class below the one that is due. */
    static void dueThrow(String call, Class<?> kind, Call made) {
        due(call, outcome(made), "throws " + kind.getSimpleName());
    }

    /** The call must throw, and everything that can be asked must be answered as before. */
    static void refuses(MarbleRamps x, String call, Class<?> kind, Call made) {
        String before = everything(x);
        dueThrow(call, kind, made);
        due("everything behind " + call, everything(x), before);
    }

    /** The call must answer so, and everything that can be asked must be answered as before. */
    static void dueUnchanged(MarbleRamps x, String call, Call made, Object want) {
        String before = everything(x);
        due(call, outcome(made), want);
        due("everything behind " + call, everything(x), before);
    }

    /** Of several boards, each place outside of them is refused and each one in their corners is taken. */
    static void refusesPlaces(String name, PlaceCall call) {
        for (MarbleRamps x : Boards.several()) {
            String board = x.columns() + "x" + x.rows() + ": ";
            for (int[] place : Boards.placesOutside(x.columns(), x.rows())) {
                refuses(x, board + name + "(" + place[0] + ", " + place[1] + ")", NO_INDEX,
                    () -> call.answer(x, place[0], place[1]));
            }
            for (int row : new int[] {0, x.rows() - 1}) {
                for (int column : new int[] {0, x.columns() - 1}) {
                    x.put(row, column, 3);
                    takes(board + name + "(" + row + ", " + column + ")", () -> call.answer(x, row, column));
                }
            }
        }
    }

    static void refusesColumns(String name, NumberCall call) {
        for (MarbleRamps x : Boards.several()) {
            refusesOutside(x, name, 0, x.columns() - 1, NO_INDEX, call);
        }
    }

    static void refusesRows(String name, NumberCall call) {
        for (MarbleRamps x : Boards.several()) {
            refusesOutside(x, name, 0, x.rows() - 1, NO_INDEX, call);
        }
    }

    static void refusesHoppers(String name, NumberCall call) {
        for (MarbleRamps x : Boards.several()) {
            refusesOutside(x, name, 0, 1, NO_INDEX, call);
        }
    }

    static void refusesArguments(String name, int least, int most, NumberCall call) {
        for (MarbleRamps x : Boards.several()) {
            refusesOutside(x, name, least, most, NO_ARGUMENT, call);
        }
    }

    private static void refusesOutside(MarbleRamps x, String name, int least, int most, Class<?> kind,
            NumberCall call) {
        String board = x.columns() + "x" + x.rows() + ": ";
        for (int number : Boards.outside(least, most)) {
            refuses(x, board + name + " of " + number, kind, () -> call.answer(x, number));
        }
        takes(board + name + " of " + least, () -> call.answer(x, least));
        takes(board + name + " of " + most, () -> call.answer(x, most));
    }

    static void takes(String call, Call made) {
        due(call + " throws", String.valueOf(outcome(made)).startsWith("throws"), false);
    }

    /** Whatever is asked, all answers and all marbles behind it are those of a twin that is not asked. */
    static void changesNothing(String name, ObjectCall question) {
        List<MarbleRamps> asking = Boards.several();
        List<MarbleRamps> twins = Boards.several();
        for (int board = 0; board < asking.size(); board++) {
            MarbleRamps x = asking.get(board);
            MarbleRamps twin = twins.get(board);
            for (int step = 0; step < 12; step++) {
                Object answer = question.answer(x);
                due(name + " again", question.answer(x), answer);
                due("what there is behind " + name, whatThereIs(x), whatThereIs(twin));
                int column = step % x.columns();
                due("drop(" + column + ") behind " + name, x.drop(column), twin.drop(column));
                due("run behind " + name, x.run(step % 2, 1 + step), twin.run(step % 2, 1 + step));
            }
            due("everything behind " + name, everything(x), everything(twin));
        }
    }

    static Object outcome(Call made) {
        try {
            return made.answer();
        } catch (RuntimeException e) {
            return "throws " + e.getClass().getSimpleName();
        }
    }

    static String everything(MarbleRamps x) {
        // The periods can't be asked, but they show in what would be.
        return whatThereIs(x) + " digest " + x.digest();
    }

    static String whatThereIs(MarbleRamps x) {
        StringBuilder all = new StringBuilder();
        all.append(x.columns()).append('x').append(x.rows()).append(" lost ").append(x.lost());
        for (int hopper = 0; hopper < 2; hopper++) {
            all.append(" hopper ").append(x.columnOf(hopper)).append(':').append(x.marblesIn(hopper));
        }
        for (int row = 0; row < x.rows(); row++) {
            all.append(" row");
            for (int column = 0; column < x.columns(); column++) {
                all.append(' ').append(x.partAt(row, column));
                all.append(x.leadsRight(row, column) ? 'R' : 'L').append(x.countAt(row, column));
            }
        }
        all.append(" bins");
        for (int column = 0; column < x.columns(); column++) {
            all.append(' ').append(x.binOf(column));
        }
        return all.toString();
    }

    static void end() {
        String tests = sentences == 0 ? "" : sentences + " sentences, ";
        System.out.println(tests + asked + " answers, " + wrong + " not as due");
        if (wrong != 0 || asked == 0) {
            System.exit(1);
        }
    }
}
