/** Promises 1 to 6: a new object and the calls that change the board. */
public final class BoardTest {
    private static final Class<?> NO_INDEX = IndexOutOfBoundsException.class;
    private static final Class<?> NO_ARGUMENT = IllegalArgumentException.class;
    private static final Class<?> NO_STATE = IllegalStateException.class;
    private static final int[] FAR = {-1, Integer.MIN_VALUE, Integer.MAX_VALUE, 1 << 30, -(1 << 30), 100};

    public static void main(String[] args) {
        aNewObject();
        lay();
        layRefuses();
        layKeepsTheMarblesOfHoppers();
        put();
        putRefuses();
        putCounter();
        putCounterRefuses();
        turn();
        turnRefuses();
        setHopper();
        setHopperRefuses();
        objectsAreApart();
        Checks.end();
    }

    private static void aNewObject() {
        MarbleRamps x = new MarbleRamps();
        Checks.due("1: everything of a new object", Checks.everything(x).replaceAll(" digest.*", ""),
            "5x4 lost 0 hopper 0:0 hopper 4:0" + " row 0L0 0L0 0L0 0L0 0L0".repeat(4) + " bins 0 0 0 0 0");
        Checks.due("1: toggles()", x.toggles(), 0);
        Checks.due("1: meanInBins()", x.meanInBins(), 0.0);
    }

    private static void lay() {
        MarbleRamps x = new MarbleRamps();
        Checks.due("2: lay(2, 1)", x.lay(2, 1), 2);
        Checks.due("2: columns()", x.columns(), 2);
        Checks.due("2: rows()", x.rows(), 1);
        Checks.due("2: lay(9, 8)", x.lay(9, 8), 72);
        for (int row = 0; row < 8; row++) {
            for (int column = 0; column < 9; column++) {
                x.put(row, column, 3);
                x.turn(row, column);
            }
        }
        x.putCounter(0, 0, 3);
        x.drop(0);
        x.drop(8);
        x.put(7, 4, 0);
        x.put(0, 3, 0);
        Checks.due("2: lost() ahead", x.lost() > 0, true);
        Checks.due("2: lay(7, 6)", x.lay(7, 6), 42);
        Checks.due("2: everything behind lay(7, 6)", Checks.everything(x).replaceAll(" digest.*", ""),
            "7x6 lost 0 hopper 0:0 hopper 6:0" + " row 0L0 0L0 0L0 0L0 0L0 0L0 0L0".repeat(6) + " bins 0 0 0 0 0 0 0");
        Checks.due("2: lay(9, 8) again", x.lay(9, 8), 72);
        Checks.due("2: toggles() of the same size again", x.toggles(), 0);
        Checks.due("2: countAt(0, 0) of the same size again", x.countAt(0, 0), 0);
        x.drop(3);
        x.lay(9, 8);
        Checks.due("2: binOf(3) behind lay", x.binOf(3), 0);
    }

    private static void layRefuses() {
        MarbleRamps x = Boards.busy();
        int[][] wrong = {{1, 4}, {10, 4}, {0, 4}, {5, 0}, {5, 9}, {1, 0}, {10, 9}};
        for (int[] w : wrong) {
            Checks.refuses(x, "2: lay(" + w[0] + ", " + w[1] + ")", NO_ARGUMENT, () -> x.lay(w[0], w[1]));
        }
        for (int far : FAR) {
            Checks.refuses(x, "2: lay(" + far + ", 4)", NO_ARGUMENT, () -> x.lay(far, 4));
            Checks.refuses(x, "2: lay(4, " + far + ")", NO_ARGUMENT, () -> x.lay(4, far));
        }
    }

    private static void layKeepsTheMarblesOfHoppers() {
        MarbleRamps x = new MarbleRamps();
        x.setHopper(0, 3, 17);
        x.setHopper(1, 1, 99);
        x.lay(8, 2);
        Checks.due("2: marblesIn(0) behind lay", x.marblesIn(0), 17);
        Checks.due("2: marblesIn(1) behind lay", x.marblesIn(1), 99);
        Checks.due("2: columnOf(0) behind lay", x.columnOf(0), 0);
        Checks.due("2: columnOf(1) behind lay", x.columnOf(1), 7);
    }

    private static void put() {
        MarbleRamps x = new MarbleRamps();
        int before = 0;
        for (int part = 4; part >= 0; part--) {
            Checks.due("3: put(3, 4, " + part + ")", x.put(3, 4, part), before);
            Checks.due("3: partAt(3, 4)", x.partAt(3, 4), part);
            before = part;
        }
        x.putCounter(1, 2, 4);
        x.drop(2);
        Checks.due("3: put(1, 2, 3) in the place of a counter", x.put(1, 2, 3), 5);
        Checks.due("3: countAt(1, 2) behind it", x.countAt(1, 2), 0);
        Checks.due("3: leadsRight(1, 2) of a new toggle", x.leadsRight(1, 2), false);
        x.turn(1, 2);
        Checks.due("3: put(1, 2, 3) in the place of a toggle", x.put(1, 2, 3), 3);
        Checks.due("3: a new toggle leads to the left again", x.leadsRight(1, 2), false);
        x.turn(1, 2);
        x.put(1, 2, 2);
        Checks.due("3: leadsRight(1, 2) of a ramp", x.leadsRight(1, 2), false);
        Checks.due("3: asBeforeIn(2) of a ramp", x.asBeforeIn(2), 1);
        Checks.due("3: partAt(2, 1) beside it", x.partAt(2, 1), 0);
        Checks.due("3: put(0, 0, 1)", x.put(0, 0, 1), 0);
        Checks.due("3: partAt(0, 0)", x.partAt(0, 0), 1);
    }

    private static void putRefuses() {
        MarbleRamps x = Boards.busy();
        int[][] noPlace = {{-1, 0, 1}, {4, 0, 1}, {0, -1, 1}, {0, 5, 1}, {4, 5, 1}, {-1, 0, 9}, {0, 5, -1}, {3, 5, 5}};
        for (int[] w : noPlace) {
            Checks.refuses(x, "3: put(" + w[0] + ", " + w[1] + ", " + w[2] + ")", NO_INDEX,
                () -> x.put(w[0], w[1], w[2]));
        }
        for (int part : new int[] {-1, 5, 6}) {
            Checks.refuses(x, "3: put(0, 0, " + part + ")", NO_ARGUMENT, () -> x.put(0, 0, part));
        }
        for (int far : FAR) {
            Checks.refuses(x, "3: put(" + far + ", 0, 1)", NO_INDEX, () -> x.put(far, 0, 1));
            Checks.refuses(x, "3: put(0, " + far + ", 1)", NO_INDEX, () -> x.put(0, far, 1));
            Checks.refuses(x, "3: put(0, 0, " + far + ")", NO_ARGUMENT, () -> x.put(0, 0, far));
        }
    }

    private static void putCounter() {
        for (int period = 2; period <= 9; period++) {
            MarbleRamps x = new MarbleRamps();
            Checks.due("4: putCounter(3, 1, " + period + ")", x.putCounter(3, 1, period), 0);
            Checks.due("4: partAt(3, 1)", x.partAt(3, 1), 5);
            for (int marble = 1; marble <= 2 * period; marble++) {
                boolean full = marble % period == 0;
                Checks.due("4: drop(1) " + marble + " of period " + period, x.drop(1), full ? 2 : 0);
                Checks.due("4: countAt(3, 1) of period " + period, x.countAt(3, 1), marble % period);
            }
        }
        MarbleRamps x = new MarbleRamps();
        x.putCounter(0, 2, 5);
        x.drop(2);
        x.drop(2);
        Checks.due("4: putCounter(0, 2, 3) in the place of a counter", x.putCounter(0, 2, 3), 5);
        Checks.due("4: a new counter counted nothing", x.countAt(0, 2), 0);
        Checks.due("4: its period is the new one", x.asBeforeIn(2), 3);
        x.put(0, 2, 3);
        x.turn(0, 2);
        Checks.due("4: putCounter(0, 2, 2) in the place of a toggle", x.putCounter(0, 2, 2), 3);
        Checks.due("4: countAt(0, 2) behind a toggle", x.countAt(0, 2), 0);
        Checks.due("4: leadsRight(0, 2) of a counter", x.leadsRight(0, 2), false);
        x.drop(2);
        Checks.due("4: leadsRight(0, 2) of a counter that counted 1", x.leadsRight(0, 2), false);
    }

    private static void putCounterRefuses() {
        MarbleRamps x = Boards.busy();
        int[][] noPlace = {{-1, 0, 2}, {4, 0, 2}, {0, -1, 2}, {0, 5, 2}, {4, 0, 1}, {0, 5, 10}};
        for (int[] w : noPlace) {
            Checks.refuses(x, "4: putCounter(" + w[0] + ", " + w[1] + ", " + w[2] + ")", NO_INDEX,
                () -> x.putCounter(w[0], w[1], w[2]));
        }
        for (int period : new int[] {0, 1, 10}) {
            Checks.refuses(x, "4: putCounter(0, 0, " + period + ")", NO_ARGUMENT, () -> x.putCounter(0, 0, period));
        }
        for (int far : FAR) {
            Checks.refuses(x, "4: putCounter(" + far + ", 0, 2)", NO_INDEX, () -> x.putCounter(far, 0, 2));
            Checks.refuses(x, "4: putCounter(0, " + far + ", 2)", NO_INDEX, () -> x.putCounter(0, far, 2));
            Checks.refuses(x, "4: putCounter(0, 0, " + far + ")", NO_ARGUMENT, () -> x.putCounter(0, 0, far));
        }
    }

    private static void turn() {
        MarbleRamps x = new MarbleRamps();
        x.put(2, 3, 3);
        x.put(2, 1, 3);
        Checks.due("5: turn(2, 3)", x.turn(2, 3), true);
        Checks.due("5: leadsRight(2, 3)", x.leadsRight(2, 3), true);
        Checks.due("5: leadsRight(2, 1) beside it", x.leadsRight(2, 1), false);
        Checks.due("5: wouldLand(3)", x.wouldLand(3), 4);
        Checks.due("5: turn(2, 3) again", x.turn(2, 3), false);
        Checks.due("5: leadsRight(2, 3) again", x.leadsRight(2, 3), false);
        Checks.due("5: wouldLand(3) again", x.wouldLand(3), 2);
    }

    private static void turnRefuses() {
        MarbleRamps x = new MarbleRamps();
        for (int part : new int[] {0, 1, 2, 4}) {
            x.put(3, 0, part);
            Checks.refuses(x, "5: turn(3, 0) of part " + part, NO_STATE, () -> x.turn(3, 0));
        }
        x.putCounter(3, 0, 2);
        Checks.refuses(x, "5: turn(3, 0) of a counter", NO_STATE, () -> x.turn(3, 0));
        Checks.refuses(x, "5: turn(4, 0)", NO_INDEX, () -> x.turn(4, 0));
        Checks.refuses(x, "5: turn(0, 5)", NO_INDEX, () -> x.turn(0, 5));
        for (int far : FAR) {
            Checks.refuses(x, "5: turn(" + far + ", 0)", NO_INDEX, () -> x.turn(far, 0));
            Checks.refuses(x, "5: turn(0, " + far + ")", NO_INDEX, () -> x.turn(0, far));
        }
    }

    private static void setHopper() {
        MarbleRamps x = new MarbleRamps();
        Checks.due("6: setHopper(0, 4, 99)", x.setHopper(0, 4, 99), 0);
        Checks.due("6: setHopper(1, 0, 7)", x.setHopper(1, 0, 7), 0);
        Checks.due("6: marblesIn(0)", x.marblesIn(0), 99);
        Checks.due("6: columnOf(0)", x.columnOf(0), 4);
        Checks.due("6: marblesIn(1)", x.marblesIn(1), 7);
        Checks.due("6: columnOf(1)", x.columnOf(1), 0);
        Checks.due("6: setHopper(0, 2, 0)", x.setHopper(0, 2, 0), 99);
        Checks.due("6: marblesIn(0), none", x.marblesIn(0), 0);
        Checks.due("6: columnOf(0) moved", x.columnOf(0), 2);
        Checks.due("6: setHopper(1, 2, 5) above the same column", x.setHopper(1, 2, 5), 7);
    }

    private static void setHopperRefuses() {
        MarbleRamps x = Boards.busy();
        int[][] noIndex = {{2, 0, 1}, {-1, 0, 1}, {0, 5, 1}, {1, -1, 1}, {2, 5, 100}, {0, 5, -1}, {2, 0, 100}};
        for (int[] w : noIndex) {
            Checks.refuses(x, "6: setHopper(" + w[0] + ", " + w[1] + ", " + w[2] + ")", NO_INDEX,
                () -> x.setHopper(w[0], w[1], w[2]));
        }
        for (int far : FAR) {
            Checks.refuses(x, "6: setHopper(" + far + ", 0, 1)", NO_INDEX, () -> x.setHopper(far, 0, 1));
            Checks.refuses(x, "6: setHopper(0, " + far + ", 1)", NO_INDEX, () -> x.setHopper(0, far, 1));
            Checks.refuses(x, "6: setHopper(1, 3, " + far + ")", NO_ARGUMENT, () -> x.setHopper(1, 3, far));
        }
    }

    private static void objectsAreApart() {
        MarbleRamps x = Boards.busy();
        String before = Checks.everything(x);
        MarbleRamps other = new MarbleRamps();
        other.put(0, 0, 3);
        other.drop(0);
        other.setHopper(0, 1, 50);
        Checks.due("1: one object behind calls of another", Checks.everything(x), before);
    }
}
