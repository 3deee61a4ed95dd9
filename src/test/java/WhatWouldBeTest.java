/** Promises 21 to 29: the calls that tell what would be, and change nothing. */
public final class WhatWouldBeTest {
    private static final Class<?> NO_INDEX = IndexOutOfBoundsException.class;
    private static final Class<?> NO_ARGUMENT = IllegalArgumentException.class;
    private static final int[] FAR = {-1, Integer.MIN_VALUE, Integer.MAX_VALUE, 1 << 30, -(1 << 30), 100};

    public static void main(String[] args) {
        wouldLand();
        wouldBeIn();
        wouldTurn();
        lastLands();
        asBeforeIn();
        asBeforeInEdges();
        wouldRun();
        bestColumn();
        meanInBins();
        digest();
        questionsAreApart();
        columnsRefuse();
        argumentsRefuse();
        Checks.end();
    }

    private static void wouldLand() {
        MarbleRamps x = Boards.tree();
        Checks.dueUnchanged(x, "21: wouldLand(2)", () -> x.wouldLand(2), 0);
        x.turn(0, 2);
        Checks.dueUnchanged(x, "21: wouldLand(2) turned", () -> x.wouldLand(2), 2);
        x.turn(1, 3);
        Checks.dueUnchanged(x, "21: wouldLand(2) turned twice", () -> x.wouldLand(2), 4);
        x.put(3, 4, 2);
        Checks.dueUnchanged(x, "21: wouldLand(2) lost", () -> x.wouldLand(2), -1);
        Checks.dueUnchanged(x, "21: wouldLand(0)", () -> x.wouldLand(0), 0);
        Checks.due("21: lost()", x.lost(), 0);
    }

    private static void wouldBeIn() {
        MarbleRamps x = Boards.tree();
        int[] columns = {2, 1, 0, 0};
        for (int row = 0; row < 4; row++) {
            int asked = row;
            Checks.dueUnchanged(x, "22: wouldBeIn(2, " + row + ")", () -> x.wouldBeIn(2, asked), columns[row]);
        }
        x.put(2, 0, 1);
        Checks.dueUnchanged(x, "22: wouldBeIn(2, 2) ahead of the loss", () -> x.wouldBeIn(2, 2), 0);
        Checks.dueUnchanged(x, "22: wouldBeIn(2, 3) behind the loss", () -> x.wouldBeIn(2, 3), -1);
        x.put(2, 0, 0);
        x.put(3, 0, 1);
        Checks.dueUnchanged(x, "22: wouldBeIn(2, 3), lost from the last row", () -> x.wouldBeIn(2, 3), 0);
        Checks.dueUnchanged(x, "22: wouldBeIn(4, 0)", () -> x.wouldBeIn(4, 0), 4);
        x.put(0, 0, 1);
        Checks.dueUnchanged(x, "22: wouldBeIn(0, 3) lost in the first row", () -> x.wouldBeIn(0, 3), -1);
    }

    private static void wouldTurn() {
        MarbleRamps x = Boards.tree();
        Checks.dueUnchanged(x, "23: wouldTurn(2)", () -> x.wouldTurn(2), 2);
        Checks.dueUnchanged(x, "23: wouldTurn(1)", () -> x.wouldTurn(1), 1);
        Checks.dueUnchanged(x, "23: wouldTurn(0)", () -> x.wouldTurn(0), 0);
        x.turn(1, 1);
        Checks.dueUnchanged(x, "23: wouldTurn(1) to the right", () -> x.wouldTurn(1), 1);
        x.put(2, 0, 3);
        Checks.dueUnchanged(x, "23: wouldTurn(0) turns and is lost", () -> x.wouldTurn(0), 1);
        x.putCounter(2, 4, 3);
        Checks.dueUnchanged(x, "23: wouldTurn(4) over a counter", () -> x.wouldTurn(4), 0);
        x.lay(9, 8);
        for (int row = 0; row < 8; row++) {
            x.put(row, 4 - row % 2, 3);
            if (row % 2 == 1) {
                x.turn(row, 3);
            }
        }
        Checks.dueUnchanged(x, "23: wouldTurn(4) of eight", () -> x.wouldTurn(4), 8);
    }

    private static void lastLands() {
        MarbleRamps x = Boards.tree();
        int[] ends = {0, 2, 2, 4};
        for (int marbles = 1; marbles <= 60; marbles++) {
            int asked = marbles;
            Checks.dueUnchanged(x, "24: lastLands(2, " + marbles + ")", () -> x.lastLands(2, asked),
                ends[(marbles - 1) % 4]);
        }
        x.put(3, 2, 4);
        Checks.dueUnchanged(x, "24: lastLands(0, 60)", () -> x.lastLands(0, 60), 0);
        x.lay(4, 2);
        x.putCounter(0, 0, 9);
        Checks.dueUnchanged(x, "24: lastLands(0, 8) is lost", () -> x.lastLands(0, 8), -1);
        Checks.dueUnchanged(x, "24: lastLands(0, 9) behind lost ones", () -> x.lastLands(0, 9), 1);
        Checks.dueUnchanged(x, "24: lastLands(0, 54)", () -> x.lastLands(0, 54), 1);
    }

    private static void asBeforeIn() {
        MarbleRamps x = Boards.tree();
        Checks.dueUnchanged(x, "25: asBeforeIn(2)", () -> x.asBeforeIn(2), 4);
        Checks.dueUnchanged(x, "25: asBeforeIn(1)", () -> x.asBeforeIn(1), 2);
        Checks.dueUnchanged(x, "25: asBeforeIn(0)", () -> x.asBeforeIn(0), 1);
        x.drop(2);
        Checks.dueUnchanged(x, "25: asBeforeIn(2) from there", () -> x.asBeforeIn(2), 4);
        x.putCounter(2, 0, 3);
        Checks.dueUnchanged(x, "25: asBeforeIn(2) with a counter", () -> x.asBeforeIn(2), 12);
        Checks.dueUnchanged(x, "25: asBeforeIn(0) with lost ones", () -> x.asBeforeIn(0), 3);
        x.drop(0);
        Checks.dueUnchanged(x, "25: asBeforeIn(0) from there", () -> x.asBeforeIn(0), 3);
    }

    private static void asBeforeInEdges() {
        MarbleRamps x = new MarbleRamps();
        // The second counter gets every marble but one of so many: 7 of 8, 6 of 7 ...
        x.lay(9, 2);
        x.putCounter(0, 4, 8);
        x.putCounter(1, 3, 9);
        Checks.dueUnchanged(x, "25: asBeforeIn(4), 72 would be too many", () -> x.asBeforeIn(4), -1);
        x.putCounter(1, 3, 7);
        Checks.dueUnchanged(x, "25: asBeforeIn(4), 7 of 8 with a period of 7", () -> x.asBeforeIn(4), 8);
        x.putCounter(1, 3, 5);
        Checks.dueUnchanged(x, "25: asBeforeIn(4), 7 of 8 with a period of 5", () -> x.asBeforeIn(4), 40);
        x.putCounter(1, 3, 8);
        Checks.dueUnchanged(x, "25: asBeforeIn(4), 64 would be too many", () -> x.asBeforeIn(4), -1);
        x.putCounter(0, 4, 7);
        x.putCounter(1, 3, 8);
        Checks.dueUnchanged(x, "25: asBeforeIn(4), 6 of 7 with a period of 8", () -> x.asBeforeIn(4), 28);
        // 60 themselves: of 5 marbles the counter of 3 gets 4 and the counter of 4 gets 1, so that 12 times 5 are due.
        x.lay(9, 4);
        x.putCounter(0, 4, 5);
        x.putCounter(1, 3, 3);
        x.putCounter(1, 5, 4);
        Checks.dueUnchanged(x, "25: asBeforeIn(4), 60 are just enough", () -> x.asBeforeIn(4), 60);
        x.put(1, 5, 0);
        Checks.dueUnchanged(x, "25: asBeforeIn(4), 15 without the last counter", () -> x.asBeforeIn(4), 15);
        x.putCounter(0, 4, 9);
        x.putCounter(1, 3, 2);
        x.putCounter(1, 5, 7);
        Checks.dueUnchanged(x, "25: asBeforeIn(4), 63 are too many", () -> x.asBeforeIn(4), -1);
    }

    private static void wouldRun() {
        MarbleRamps x = Boards.tree();
        Checks.dueUnchanged(x, "26: wouldRun(0) of none", () -> x.wouldRun(0), 0);
        x.setHopper(0, 1, 20);
        x.setHopper(1, 3, 30);
        Checks.dueUnchanged(x, "26: wouldRun(0) to the middle", () -> x.wouldRun(0), 2);
        Checks.dueUnchanged(x, "26: wouldRun(1) to the middle", () -> x.wouldRun(1), 1);
        x.lay(2, 1);
        x.put(0, 0, 2);
        x.put(0, 1, 1);
        x.setHopper(0, 0, 49);
        x.setHopper(1, 1, 49);
        Checks.dueUnchanged(x, "26: wouldRun(0) of 98", () -> x.wouldRun(0), 98);
        x.setHopper(0, 0, 50);
        Checks.dueUnchanged(x, "26: wouldRun(0) of 99", () -> x.wouldRun(0), 99);
        x.setHopper(1, 1, 99);
        x.setHopper(0, 0, 99);
        Checks.dueUnchanged(x, "26: wouldRun(1), 99 at the most", () -> x.wouldRun(1), 99);
        x.put(0, 0, 1);
        Checks.dueUnchanged(x, "26: wouldRun(0) is lost", () -> x.wouldRun(0), 1);
        Checks.dueUnchanged(x, "26: wouldRun(1) is lost later", () -> x.wouldRun(1), 2);
    }

    private static void bestColumn() {
        MarbleRamps x = new MarbleRamps();
        Checks.dueUnchanged(x, "27: bestColumn() of none", () -> x.bestColumn(), 0);
        x.put(0, 4, 3);
        Checks.dueUnchanged(x, "27: bestColumn(), the last one", () -> x.bestColumn(), 4);
        x.put(3, 1, 3);
        Checks.dueUnchanged(x, "27: bestColumn() of two equal ones", () -> x.bestColumn(), 1);
        x.put(1, 3, 3);
        Checks.dueUnchanged(x, "27: bestColumn() turns two", () -> x.bestColumn(), 4);
        x.turn(0, 4);
        Checks.dueUnchanged(x, "27: bestColumn() is lost at once", () -> x.bestColumn(), 1);
        x.put(0, 0, 3);
        Checks.dueUnchanged(x, "27: bestColumn(), the first one", () -> x.bestColumn(), 0);
    }

    private static void meanInBins() {
        MarbleRamps x = new MarbleRamps();
        x.drop(0);
        Checks.dueUnchanged(x, "28: meanInBins() of 1 in 5", () -> x.meanInBins(), 0.2);
        x.drop(0);
        x.drop(3);
        Checks.dueUnchanged(x, "28: meanInBins() of 3 in 5", () -> x.meanInBins(), 3.0 / 5.0);
        x.put(0, 0, 1);
        x.drop(0);
        Checks.dueUnchanged(x, "28: meanInBins() leaves out lost ones", () -> x.meanInBins(), 3.0 / 5.0);
        x.lay(9, 1);
        x.setHopper(0, 0, 99);
        x.run(0, 98);
        Checks.dueUnchanged(x, "28: meanInBins() of 98 in 9", () -> x.meanInBins(), 98.0 / 9.0);
        x.emptyBins();
        Checks.dueUnchanged(x, "28: meanInBins() of none", () -> x.meanInBins(), 0.0);
    }

    private static void digest() {
        MarbleRamps x = new MarbleRamps();
        Checks.dueUnchanged(x, "29: digest() of a new object", () -> x.digest(), digestOf(x));
        MarbleRamps y = Boards.tree();
        y.putCounter(2, 0, 5);
        y.put(2, 4, 2);
        y.put(3, 2, 4);
        y.setHopper(0, 2, 30);
        y.setHopper(1, 0, 12);
        for (int call = 0; call < 30; call++) {
            Checks.dueUnchanged(y, "29: digest() at call " + call, () -> y.digest(), digestOf(y));
            y.drop(call % 5);
            y.run(call % 2, 1 + call % 3);
        }
    }

    private static long digestOf(MarbleRamps x) {
        java.util.ArrayList<Long> numbers = new java.util.ArrayList<>();
        numbers.add((long) x.columns());
        numbers.add((long) x.rows());
        numbers.add((long) x.lost());
        numbers.add((long) x.toggles());
        numbers.add((long) x.bestColumn());
        for (int hopper : new int[] {0, 1}) {
            numbers.add((long) x.marblesIn(hopper));
            numbers.add((long) x.columnOf(hopper));
            numbers.add((long) x.wouldRun(hopper));
        }
        for (int row = 0; row < x.rows(); row++) {
            numbers.add((long) x.numberIn(row));
            for (int column = 0; column < x.columns(); column++) {
                numbers.add((long) x.partAt(row, column));
                numbers.add(x.leadsRight(row, column) ? 1L : 0L);
                numbers.add((long) x.countAt(row, column));
            }
        }
        for (int column = 0; column < x.columns(); column++) {
            numbers.add((long) x.binOf(column));
            numbers.add((long) x.wouldLand(column));
            numbers.add((long) x.wouldTurn(column));
            numbers.add((long) x.asBeforeIn(column));
        }
        long d = 2239;
        for (long number : numbers) {
            d = d * 31 + number;
        }
        return d;
    }

    /** No question may see what an earlier one tried. */
    private static void questionsAreApart() {
        MarbleRamps x = Boards.tree();
        x.setHopper(0, 2, 9);
        x.setHopper(1, 2, 9);
        for (int time = 0; time < 3; time++) {
            Checks.due("21: wouldLand(2) again", x.wouldLand(2), 0);
            Checks.due("22: wouldBeIn(2, 3) again", x.wouldBeIn(2, 3), 0);
            Checks.due("23: wouldTurn(2) again", x.wouldTurn(2), 2);
            Checks.due("24: lastLands(2, 2) again", x.lastLands(2, 2), 2);
            Checks.due("25: asBeforeIn(2) again", x.asBeforeIn(2), 4);
            Checks.due("24: lastLands(2, 3) again", x.lastLands(2, 3), 2);
            Checks.due("26: wouldRun(0) again", x.wouldRun(0), 2);
            Checks.due("24: lastLands(2, 1) again", x.lastLands(2, 1), 0);
            Checks.due("22: wouldBeIn(2, 1) again", x.wouldBeIn(2, 1), 1);
            Checks.due("26: wouldRun(1) again", x.wouldRun(1), 2);
            Checks.due("27: bestColumn() again", x.bestColumn(), 2);
        }
    }

    private static void columnsRefuse() {
        MarbleRamps x = Boards.tree();
        columnRefuses(x, 5);
        for (int far : FAR) {
            columnRefuses(x, far);
        }
        x.lay(9, 8);
        columnRefuses(x, 9);
        x.lay(2, 8);
        columnRefuses(x, 2);
    }

    private static void columnRefuses(MarbleRamps x, int column) {
        Checks.refuses(x, "21: wouldLand(" + column + ")", NO_INDEX, () -> x.wouldLand(column));
        Checks.refuses(x, "22: wouldBeIn(" + column + ", 0)", NO_INDEX, () -> x.wouldBeIn(column, 0));
        Checks.refuses(x, "23: wouldTurn(" + column + ")", NO_INDEX, () -> x.wouldTurn(column));
        Checks.refuses(x, "24: lastLands(" + column + ", 1)", NO_INDEX, () -> x.lastLands(column, 1));
        Checks.refuses(x, "24: lastLands(" + column + ", 0)", NO_INDEX, () -> x.lastLands(column, 0));
        Checks.refuses(x, "25: asBeforeIn(" + column + ")", NO_INDEX, () -> x.asBeforeIn(column));
    }

    private static void argumentsRefuse() {
        MarbleRamps x = Boards.tree();
        x.setHopper(0, 1, 9);
        Checks.refuses(x, "22: wouldBeIn(0, 4)", NO_INDEX, () -> x.wouldBeIn(0, 4));
        Checks.refuses(x, "24: lastLands(0, 0)", NO_ARGUMENT, () -> x.lastLands(0, 0));
        Checks.refuses(x, "24: lastLands(0, 61)", NO_ARGUMENT, () -> x.lastLands(0, 61));
        Checks.refuses(x, "26: wouldRun(2)", NO_INDEX, () -> x.wouldRun(2));
        for (int far : FAR) {
            Checks.refuses(x, "22: wouldBeIn(0, " + far + ")", NO_INDEX, () -> x.wouldBeIn(0, far));
            Checks.refuses(x, "24: lastLands(0, " + far + ")", NO_ARGUMENT, () -> x.lastLands(0, far));
            Checks.refuses(x, "26: wouldRun(" + far + ")", NO_INDEX, () -> x.wouldRun(far));
        }
    }
}
