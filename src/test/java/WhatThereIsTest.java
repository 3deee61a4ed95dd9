/** Promises 10 to 20: the calls that tell what there is. */
public final class WhatThereIsTest {
    private static final Class<?> NO_INDEX = IndexOutOfBoundsException.class;
    private static final int[] FAR = {-1, Integer.MIN_VALUE, Integer.MAX_VALUE, 1 << 30, -(1 << 30), 100};

    public static void main(String[] args) {
        columnsAndRows();
        partAt();
        leadsRight();
        countAt();
        binOf();
        lost();
        hoppers();
        toggles();
        numberIn();
        placesRefuse();
        othersRefuse();
        Checks.end();
    }

    private static void columnsAndRows() {
        MarbleRamps x = new MarbleRamps();
        for (int columns = 2; columns <= 9; columns++) {
            for (int rows = 1; rows <= 8; rows++) {
                x.lay(columns, rows);
                Checks.due("10: columns()", x.columns(), columns);
                Checks.due("11: rows()", x.rows(), rows);
            }
        }
    }

    private static void partAt() {
        MarbleRamps x = new MarbleRamps();
        x.lay(9, 8);
        for (int row = 0; row < 8; row++) {
            for (int column = 0; column < 9; column++) {
                putAny(x, row, column, (row * 9 + column * 5) % 6);
            }
        }
        for (int row = 0; row < 8; row++) {
            for (int column = 0; column < 9; column++) {
                Checks.due("12: partAt(" + row + ", " + column + ")", x.partAt(row, column), (row * 9 + column * 5) % 6);
            }
        }
    }

    private static void putAny(MarbleRamps x, int row, int column, int part) {
        if (part == 5) {
            x.putCounter(row, column, 2);
        } else {
            x.put(row, column, part);
        }
    }

    private static void leadsRight() {
        MarbleRamps x = new MarbleRamps();
        for (int part = 0; part <= 5; part++) {
            putAny(x, 0, 2, part);
            Checks.due("13: leadsRight(0, 2) of part " + part, x.leadsRight(0, 2), false);
            x.drop(2);
            Checks.due("13: leadsRight(0, 2) of part " + part + " behind a marble", x.leadsRight(0, 2), part == 3);
        }
    }

    private static void countAt() {
        MarbleRamps x = new MarbleRamps();
        for (int part = 0; part <= 4; part++) {
            x.put(0, 2, part);
            x.drop(2);
            Checks.due("14: countAt(0, 2) of part " + part, x.countAt(0, 2), 0);
        }
        x.putCounter(0, 2, 9);
        for (int marbles = 1; marbles <= 20; marbles++) {
            x.drop(2);
            Checks.due("14: countAt(0, 2) behind " + marbles, x.countAt(0, 2), marbles % 9);
        }
    }

    private static void binOf() {
        MarbleRamps x = new MarbleRamps();
        x.lay(9, 3);
        for (int column = 0; column < 9; column++) {
            for (int marble = 0; marble < column; marble++) {
                x.drop(column);
            }
        }
        for (int column = 0; column < 9; column++) {
            Checks.due("15: binOf(" + column + ")", x.binOf(column), column);
        }
    }

    private static void lost() {
        MarbleRamps x = new MarbleRamps();
        x.put(1, 4, 2);
        for (int marbles = 1; marbles <= 5; marbles++) {
            x.drop(4);
            x.drop(3);
            Checks.due("16: lost()", x.lost(), marbles);
        }
        x.setHopper(1, 4, 9);
        x.run(1, 9);
        Checks.due("16: lost() in a run", x.lost(), 6);
        x.lay(5, 4);
        Checks.due("16: lost() of another board", x.lost(), 0);
    }

    private static void hoppers() {
        MarbleRamps x = new MarbleRamps();
        x.setHopper(0, 3, 21);
        x.setHopper(1, 1, 34);
        x.run(0, 4);
        Checks.due("17: marblesIn(0)", x.marblesIn(0), 19);
        Checks.due("17: marblesIn(1)", x.marblesIn(1), 32);
        Checks.due("18: columnOf(0)", x.columnOf(0), 3);
        Checks.due("18: columnOf(1)", x.columnOf(1), 1);
        for (int columns = 2; columns <= 9; columns++) {
            x.lay(columns, 1);
            Checks.due("18: columnOf(0) of " + columns, x.columnOf(0), 0);
            Checks.due("18: columnOf(1) of " + columns, x.columnOf(1), columns - 1);
        }
    }

    private static void toggles() {
        MarbleRamps x = new MarbleRamps();
        x.lay(9, 8);
        for (int row = 0; row < 8; row++) {
            for (int column = 0; column < 9; column++) {
                x.put(row, column, 3);
                Checks.due("19: toggles()", x.toggles(), row * 9 + column + 1);
            }
        }
        x.turn(3, 3);
        Checks.due("19: toggles() behind turn", x.toggles(), 72);
        x.put(3, 3, 4);
        x.putCounter(0, 0, 4);
        x.put(1, 1, 3);
        Checks.due("19: toggles() behind others", x.toggles(), 70);
    }

    private static void numberIn() {
        MarbleRamps x = new MarbleRamps();
        x.lay(9, 2);
        Checks.due("20: numberIn(0) of none", x.numberIn(0), 0);
        for (int column = 0; column < 9; column++) {
            x.put(1, column, 3);
        }
        Checks.due("20: numberIn(1), all to the left", x.numberIn(1), 0);
        for (int column = 0; column < 9; column++) {
            x.turn(1, column);
            Checks.due("20: numberIn(1), to the right up to " + column, x.numberIn(1), (2 << column) - 1);
        }
        Checks.due("20: numberIn(0) beside it", x.numberIn(0), 0);
        x.put(1, 0, 2);
        x.put(1, 4, 4);
        x.putCounter(1, 5, 9);
        x.turn(1, 2);
        Checks.due("20: numberIn(1) leaves out what is no toggle", x.numberIn(1), 1 + 4 + 8 + 16 + 32);
        x.turn(1, 8);
        Checks.due("20: numberIn(1), the last one to the left", x.numberIn(1), 1 + 4 + 8 + 16);
    }

    private static void placesRefuse() {
        MarbleRamps x = new MarbleRamps();
        int[][] wrong = {{-1, 0}, {4, 0}, {0, -1}, {0, 5}, {4, 5}, {-1, 5}};
        for (int[] w : wrong) {
            placeRefuses(x, w[0], w[1]);
        }
        for (int far : FAR) {
            placeRefuses(x, far, 0);
            placeRefuses(x, 0, far);
        }
        x.lay(9, 8);
        placeRefuses(x, 8, 0);
        placeRefuses(x, 0, 9);
        x.lay(2, 1);
        placeRefuses(x, 1, 0);
        placeRefuses(x, 0, 2);
    }

    private static void placeRefuses(MarbleRamps x, int row, int column) {
        String place = "(" + row + ", " + column + ")";
        Checks.refuses(x, "12: partAt" + place, NO_INDEX, () -> x.partAt(row, column));
        Checks.refuses(x, "13: leadsRight" + place, NO_INDEX, () -> x.leadsRight(row, column));
        Checks.refuses(x, "14: countAt" + place, NO_INDEX, () -> x.countAt(row, column));
    }

    private static void othersRefuse() {
        MarbleRamps x = new MarbleRamps();
        x.drop(2);
        Checks.refuses(x, "15: binOf(5)", NO_INDEX, () -> x.binOf(5));
        Checks.refuses(x, "17: marblesIn(2)", NO_INDEX, () -> x.marblesIn(2));
        Checks.refuses(x, "18: columnOf(2)", NO_INDEX, () -> x.columnOf(2));
        Checks.refuses(x, "20: numberIn(4)", NO_INDEX, () -> x.numberIn(4));
        for (int far : FAR) {
            Checks.refuses(x, "15: binOf(" + far + ")", NO_INDEX, () -> x.binOf(far));
            Checks.refuses(x, "17: marblesIn(" + far + ")", NO_INDEX, () -> x.marblesIn(far));
            Checks.refuses(x, "18: columnOf(" + far + ")", NO_INDEX, () -> x.columnOf(far));
            Checks.refuses(x, "20: numberIn(" + far + ")", NO_INDEX, () -> x.numberIn(far));
        }
    }
}
