/** The boundary cases that promises 1 to 9 name: a test of its own for each sentence. */
public final class BoundaryCallsTest {
    private static final String NO_PLACE = "Throws IndexOutOfBoundsException if there is no such row or column";

    public static void main(String[] args) {
        Checks.sentence("1: Creates a board of 5 columns and 4 rows, without parts and marbles",
            BoundaryCallsTest::newObject);
        layAndPut();
        counterAndTurn();
        hopper();
        marbles();
        Checks.end();
    }

    private static void layAndPut() {
        Checks.sentence("2: Lays another board, without parts", BoundaryCallsTest::layWithoutParts);
        Checks.sentence("2: bins are empty", BoundaryCallsTest::layEmptiesBins);
        Checks.sentence("2: nothing is lost", BoundaryCallsTest::layForgetsTheLost);
        Checks.sentence("2: hoppers keep their marbles", BoundaryCallsTest::layKeepsMarbles);
        Checks.sentence("2: Returns how many places", BoundaryCallsTest::layReturns);
        Checks.sentence("2: Throws IllegalArgumentException if columns is not 2 to 9", BoundaryCallsTest::layColumns);
        Checks.sentence("2: or rows is not 1 to 8", BoundaryCallsTest::layRows);
        Checks.sentence("3: Puts a new part at a place, in the place of any other one", BoundaryCallsTest::putNew);
        Checks.sentence("3: Returns the part before", BoundaryCallsTest::putReturns);
        Checks.sentence("3: " + NO_PLACE, BoundaryCallsTest::putPlaces);
        Checks.sentence("3: Throws IllegalArgumentException if part is not 0 to 4", BoundaryCallsTest::putParts);
    }

    private static void counterAndTurn() {
        Checks.sentence("4: Puts a new counter at a place, likewise", BoundaryCallsTest::counterNew);
        Checks.sentence("4: Returns the part before", BoundaryCallsTest::counterReturns);
        Checks.sentence("4: " + NO_PLACE, BoundaryCallsTest::counterPlaces);
        Checks.sentence("4: Throws IllegalArgumentException if period is not 2 to 9", BoundaryCallsTest::counterPeriods);
        Checks.sentence("5: Turns a toggle over by hand", BoundaryCallsTest::turnOver);
        Checks.sentence("5: Returns whether it leads to the right then", BoundaryCallsTest::turnReturns);
        Checks.sentence("5: " + NO_PLACE, BoundaryCallsTest::turnPlaces);
        Checks.sentence("5: Throws IllegalStateException if there is no toggle", BoundaryCallsTest::turnNoToggle);
    }

    private static void hopper() {
        Checks.sentence("6: Puts a hopper above a column", BoundaryCallsTest::hopperColumns);
        Checks.sentence("6: and marbles into it, in the place of those in it", BoundaryCallsTest::hopperMarbles);
        Checks.sentence("6: Returns how many it had before", BoundaryCallsTest::hopperReturns);
        Checks.sentence("6: Throws IndexOutOfBoundsException if hopper is not 0 or 1",
            BoundaryCallsTest::hopperNumbers);
        Checks.sentence("6: or there is no such column", BoundaryCallsTest::hopperNoColumn);
        Checks.sentence("6: Throws IllegalArgumentException if marbles is not 0 to 99",
            BoundaryCallsTest::hopperNoMarbles);
    }

    private static void marbles() {
        Checks.sentence("7: the column of the row 0 into which it falls", BoundaryCallsTest::dropColumns);
        Checks.sentence("7: Returns the bin in which it lands", BoundaryCallsTest::dropReturnsBin);
        Checks.sentence("7: -1 if it is lost", BoundaryCallsTest::dropReturnsLost);
        Checks.sentence("7: Throws IndexOutOfBoundsException if there is no such column",
            BoundaryCallsTest::dropNoColumn);
        Checks.sentence("8: how many marbles fall at the most", BoundaryCallsTest::runAtMost);
        Checks.sentence("8: Returns how many fell", BoundaryCallsTest::runReturns);
        Checks.sentence("8: Throws IndexOutOfBoundsException if hopper is not 0 or 1", BoundaryCallsTest::runHoppers);
        Checks.sentence("8: Throws IllegalArgumentException if most is not 1 to 99", BoundaryCallsTest::runMost);
        Checks.sentence("9: Returns how many marbles were in bins", BoundaryCallsTest::emptyReturns);
        Checks.sentence("9: all bins are empty then", BoundaryCallsTest::emptyEmpties);
    }

    // ---- promise 1

    private static void newObject() {
        Boards.full();
        String bare = "5x4 lost 0 hopper 0:0 hopper 4:0" + " row 0L0 0L0 0L0 0L0 0L0".repeat(4) + " bins 0 0 0 0 0";
        MarbleRamps x = new MarbleRamps();
        Checks.due("what there is of a new object", Checks.whatThereIs(x), bare);
        Boards.putAny(x, 3, 4, 5);
        x.drop(4);
        Checks.due("what there is of another new object", Checks.whatThereIs(new MarbleRamps()), bare);
    }

    // ---- promise 2

    private static void layWithoutParts() {
        int[][] sizes = {{9, 8}, {2, 1}, {9, 8}, {5, 4}, {9, 1}, {2, 8}, {9, 8}};
        for (int[] size : sizes) {
            MarbleRamps x = Boards.full();
            x.lay(size[0], size[1]);
            String board = " of " + size[0] + " columns and " + size[1] + " rows";
            Checks.due("toggles()" + board, x.toggles(), 0);
            for (int row = 0; row < size[1]; row++) {
                Checks.due("numberIn(" + row + ")" + board, x.numberIn(row), 0);
                for (int column = 0; column < size[0]; column++) {
                    Checks.due("partAt" + board, x.partAt(row, column), 0);
                    Checks.due("leadsRight" + board, x.leadsRight(row, column), false);
                    Checks.due("countAt" + board, x.countAt(row, column), 0);
                }
            }
            x.lay(9, 8);
            Checks.due("what there is of the largest board behind that" + board, Checks.whatThereIs(x),
                Checks.whatThereIs(Boards.laid(9, 8)));
            Checks.due("asBeforeIn(8) behind that" + board, x.asBeforeIn(8), 1);
        }
    }

    private static void layEmptiesBins() {
        int[][] sizes = {{9, 8}, {5, 4}, {2, 1}};
        for (int[] size : sizes) {
            MarbleRamps x = Boards.laid(9, 8);
            for (int column = 0; column < 9; column++) {
                x.drop(column);
            }
            x.lay(size[0], size[1]);
            for (int column = 0; column < size[0]; column++) {
                Checks.due("binOf(" + column + ") of " + size[0], x.binOf(column), 0);
            }
            Checks.due("meanInBins() of " + size[0], x.meanInBins(), 0.0);
            x.lay(9, 8);
            for (int column = 0; column < 9; column++) {
                Checks.due("binOf(" + column + ") of 9 behind " + size[0], x.binOf(column), 0);
            }
            Checks.due("emptyBins() of 9 behind " + size[0], x.emptyBins(), 0);
        }
    }

    private static void layForgetsTheLost() {
        MarbleRamps x = new MarbleRamps();
        for (int columns = 2; columns <= 9; columns++) {
            x.put(0, 0, 1);
            x.drop(0);
            x.drop(0);
            Checks.due("lost() ahead of lay", x.lost(), 2);
            x.lay(columns, 1);
            Checks.due("lost() behind lay(" + columns + ", 1)", x.lost(), 0);
        }
    }

    private static void layKeepsMarbles() {
        MarbleRamps x = new MarbleRamps();
        int[] marbles = {0, 1, 98, 99};
        for (int in0 : marbles) {
            for (int in1 : marbles) {
                x.lay(9, 8);
                x.setHopper(0, 8, in0);
                x.setHopper(1, 7, in1);
                x.lay(2, 1);
                Checks.due("marblesIn(0) behind lay", x.marblesIn(0), in0);
                Checks.due("marblesIn(1) behind lay", x.marblesIn(1), in1);
                Checks.due("run(0, 99) behind lay", x.run(0, 99), in0);
                Checks.due("run(1, 99) behind lay", x.run(1, 99), in1);
            }
        }
    }

    private static void layReturns() {
        MarbleRamps x = new MarbleRamps();
        for (int columns = 2; columns <= 9; columns++) {
            for (int rows = 1; rows <= 8; rows++) {
                Checks.due("lay(" + columns + ", " + rows + ")", x.lay(columns, rows), columns * rows);
            }
        }
    }

    private static void layColumns() {
        Checks.refusesArguments("lay(n, 1)", 2, 9, (x, columns) -> x.lay(columns, 1));
        Checks.refusesArguments("lay(n, 8)", 2, 9, (x, columns) -> x.lay(columns, 8));
        for (int wrong : new int[] {1, 10}) {
            MarbleRamps x = Boards.busy();
            Checks.refuses(x, "lay(" + wrong + ", 9)", IllegalArgumentException.class, () -> x.lay(wrong, 9));
        }
    }

    private static void layRows() {
        Checks.refusesArguments("lay(2, n)", 1, 8, (x, rows) -> x.lay(2, rows));
        Checks.refusesArguments("lay(9, n)", 1, 8, (x, rows) -> x.lay(9, rows));
    }

    // ---- promise 3

    /** A place where each part has been used once: a toggle is turned over, a counter counted 1. */
    private static MarbleRamps used(int row, int column, int part) {
        MarbleRamps x = new MarbleRamps();
        Boards.putAny(x, row, column, part);
        x.drop(column);
        return x;
    }

    private static void putNew() {
        for (int old = 0; old <= 5; old++) {
            for (int part = 0; part <= 4; part++) {
                MarbleRamps x = used(3, 4, old);
                x.put(3, 4, part);
                String call = " behind put(3, 4, " + part + ") in the place of " + old;
                Checks.due("partAt(3, 4)" + call, x.partAt(3, 4), part);
                Checks.due("leadsRight(3, 4)" + call, x.leadsRight(3, 4), false);
                Checks.due("countAt(3, 4)" + call, x.countAt(3, 4), 0);
                Checks.due("wouldLand(4)" + call, x.wouldLand(4), new int[] {4, 3, -1, 3, 4}[part]);
                Checks.due("lastLands(4, 2)" + call, x.lastLands(4, 2), new int[] {4, 3, -1, -1, 4}[part]);
                Checks.due("asBeforeIn(4)" + call, x.asBeforeIn(4), part == 3 ? 2 : 1);
                Checks.due("toggles()" + call, x.toggles(), part == 3 ? 1 : 0);
                Checks.due("partAt(3, 3)" + call, x.partAt(3, 3), 0);
                Checks.due("partAt(2, 4)" + call, x.partAt(2, 4), 0);
            }
        }
    }

    private static void putReturns() {
        for (int old = 0; old <= 5; old++) {
            for (int part = 0; part <= 4; part++) {
                for (int row : new int[] {0, 3}) {
                    for (int column : new int[] {0, 4}) {
                        MarbleRamps x = used(row, column, old);
                        Checks.due("put(" + row + ", " + column + ", " + part + ")", x.put(row, column, part), old);
                    }
                }
            }
        }
    }

    private static void putPlaces() {
        Checks.refusesPlaces("put 0", (x, row, column) -> x.put(row, column, 0));
        Checks.refusesPlaces("put 4", (x, row, column) -> x.put(row, column, 4));
    }

    private static void putParts() {
        Checks.refusesArguments("put(0, 0, n)", 0, 4, (x, part) -> x.put(0, 0, part));
        Checks.refusesArguments("put at the last place", 0, 4,
            (x, part) -> x.put(x.rows() - 1, x.columns() - 1, part));
    }

    // ---- promise 4

    private static void counterNew() {
        for (int old = 0; old <= 5; old++) {
            for (int period = 2; period <= 9; period++) {
                MarbleRamps x = used(3, 4, old);
                x.putCounter(3, 4, period);
                String call = " behind putCounter(3, 4, " + period + ") in the place of " + old;
                Checks.due("partAt(3, 4)" + call, x.partAt(3, 4), 5);
                Checks.due("countAt(3, 4)" + call, x.countAt(3, 4), 0);
                Checks.due("leadsRight(3, 4)" + call, x.leadsRight(3, 4), false);
                Checks.due("lastLands" + call, x.lastLands(4, period - 1), 3);
                Checks.due("lastLands of a full one" + call, x.lastLands(4, period), -1);
                Checks.due("asBeforeIn(4)" + call, x.asBeforeIn(4), period);
                Checks.due("toggles()" + call, x.toggles(), 0);
                Checks.due("partAt(3, 3)" + call, x.partAt(3, 3), 0);
            }
        }
    }

    private static void counterReturns() {
        for (int old = 0; old <= 5; old++) {
            for (int period = 2; period <= 9; period++) {
                MarbleRamps x = used(0, 0, old);
                Checks.due("putCounter(0, 0, " + period + ")", x.putCounter(0, 0, period), old);
                MarbleRamps y = used(3, 4, old);
                Checks.due("putCounter(3, 4, " + period + ")", y.putCounter(3, 4, period), old);
            }
        }
    }

    private static void counterPlaces() {
        Checks.refusesPlaces("putCounter 2", (x, row, column) -> x.putCounter(row, column, 2));
        Checks.refusesPlaces("putCounter 9", (x, row, column) -> x.putCounter(row, column, 9));
    }

    private static void counterPeriods() {
        Checks.refusesArguments("putCounter(0, 0, n)", 2, 9, (x, period) -> x.putCounter(0, 0, period));
        Checks.refusesArguments("putCounter at the last place", 2, 9,
            (x, period) -> x.putCounter(x.rows() - 1, x.columns() - 1, period));
    }

    // ---- promise 5

    private static void turnOver() {
        MarbleRamps x = Boards.laid(9, 8);
        for (int row : new int[] {0, 7}) {
            for (int column : new int[] {0, 8}) {
                x.put(row, column, 3);
                for (int time = 1; time <= 4; time++) {
                    x.turn(row, column);
                    Checks.due("leadsRight behind " + time, x.leadsRight(row, column), time % 2 == 1);
                    Checks.due("wouldTurn behind " + time, x.wouldTurn(column) >= 1, true);
                }
            }
        }
        Checks.due("lost() of toggles turned by hand", x.lost(), 0);
        x.turn(0, 0);
        Checks.due("drop(0) behind turn(0, 0)", x.drop(0), 1);
        x.turn(0, 0);
        Checks.due("drop(0) behind a marble and turn(0, 0)", x.drop(0), 1);
    }

    private static void turnReturns() {
        MarbleRamps x = new MarbleRamps();
        x.put(0, 2, 3);
        for (int time = 1; time <= 6; time++) {
            Checks.due("turn(0, 2), time " + time, x.turn(0, 2), time % 2 == 1);
        }
        x.drop(2);
        Checks.due("turn(0, 2) of one that a marble turned", x.turn(0, 2), false);
    }

    private static void turnPlaces() {
        Checks.refusesPlaces("turn", (x, row, column) -> x.turn(row, column));
    }

    private static void turnNoToggle() {
        for (int part : new int[] {0, 1, 2, 4, 5}) {
            for (int[] place : new int[][] {{0, 0}, {0, 4}, {3, 0}, {3, 4}}) {
                MarbleRamps x = used(place[0], place[1], part);
                Checks.refuses(x, "turn of part " + part, IllegalStateException.class, () -> x.turn(place[0], place[1]));
            }
        }
        for (int marbles = 0; marbles < 9; marbles++) {
            MarbleRamps x = new MarbleRamps();
            x.putCounter(0, 2, 9);
            for (int marble = 0; marble < marbles; marble++) {
                x.drop(2);
            }
            Checks.refuses(x, "turn of a counter that counted " + marbles, IllegalStateException.class,
                () -> x.turn(0, 2));
        }
        MarbleRamps y = new MarbleRamps();
        y.put(1, 1, 3);
        y.put(1, 1, 0);
        Checks.refuses(y, "turn of a toggle that is gone", IllegalStateException.class, () -> y.turn(1, 1));
    }

    // ---- promise 6

    private static void hopperColumns() {
        for (MarbleRamps x : Boards.several()) {
            for (int hopper = 0; hopper < 2; hopper++) {
                int other = x.columnOf(1 - hopper);
                for (int column = 0; column < x.columns(); column++) {
                    x.setHopper(hopper, column, 1);
                    Checks.due("columnOf(" + hopper + ")", x.columnOf(hopper), column);
                    Checks.due("columnOf the other one", x.columnOf(1 - hopper), other);
                }
            }
        }
    }

    private static void hopperMarbles() {
        MarbleRamps x = new MarbleRamps();
        x.setHopper(1, 2, 42);
        for (int before : new int[] {0, 1, 99}) {
            for (int marbles : new int[] {0, 1, 99}) {
                x.setHopper(0, 0, before);
                x.setHopper(0, 0, marbles);
                Checks.due("marblesIn(0), " + marbles + " in the place of " + before, x.marblesIn(0), marbles);
                Checks.due("marblesIn(1)", x.marblesIn(1), 42);
            }
        }
    }

    private static void hopperReturns() {
        for (int hopper = 0; hopper < 2; hopper++) {
            MarbleRamps x = new MarbleRamps();
            int before = 0;
            for (int marbles : new int[] {99, 0, 0, 1, 99, 99}) {
                Checks.due("setHopper(" + hopper + ", 2, " + marbles + ")", x.setHopper(hopper, 2, marbles), before);
                before = marbles;
            }
            x.setHopper(hopper, hopper * 4, 99);
            x.run(hopper, 98);
            Checks.due("setHopper behind a run", x.setHopper(hopper, 2, 5), 1);
            x.lay(2, 1);
            Checks.due("setHopper behind lay", x.setHopper(hopper, 0, 0), 5);
        }
    }

    private static void hopperNumbers() {
        Checks.refusesHoppers("setHopper(n, 0, 99)", (x, hopper) -> x.setHopper(hopper, 0, 99));
        Checks.refusesHoppers("setHopper(n, last, 0)", (x, hopper) -> x.setHopper(hopper, x.columns() - 1, 0));
    }

    private static void hopperNoColumn() {
        Checks.refusesColumns("setHopper(0, n, 99)", (x, column) -> x.setHopper(0, column, 99));
        Checks.refusesColumns("setHopper(1, n, 0)", (x, column) -> x.setHopper(1, column, 0));
    }

    private static void hopperNoMarbles() {
        Checks.refusesArguments("setHopper(0, 0, n)", 0, 99, (x, marbles) -> x.setHopper(0, 0, marbles));
        Checks.refusesArguments("setHopper(1, last, n)", 0, 99,
            (x, marbles) -> x.setHopper(1, x.columns() - 1, marbles));
    }

    // ---- promise 7

    private static void dropColumns() {
        for (int columns = 2; columns <= 9; columns++) {
            MarbleRamps x = Boards.laid(columns, 8);
            for (int column = 0; column < columns; column++) {
                x.put(0, column, 3);
                x.drop(column);
                Checks.due("leadsRight(0, " + column + ") behind drop(" + column + ")", x.leadsRight(0, column), true);
            }
            x.put(7, columns - 1, 3);
            Checks.due("numberIn(0), each toggle once", x.numberIn(0), (1 << columns) - 1);
        }
    }

    private static void dropReturnsBin() {
        for (int columns = 2; columns <= 9; columns++) {
            for (int rows : new int[] {1, 8}) {
                MarbleRamps x = Boards.laid(columns, rows);
                for (int column = 0; column < columns; column++) {
                    Checks.due("drop(" + column + ")", x.drop(column), column);
                    Checks.due("binOf(" + column + ")", x.binOf(column), 1);
                }
                x.put(rows - 1, 1, 1);
                x.put(rows - 1, columns - 2, 2);
                Checks.due("drop into the last bin", x.drop(columns - 2), columns - 1);
                x.put(rows - 1, 1, 1);
                Checks.due("drop into the bin 0", x.drop(1), 0);
                Checks.due("lost()", x.lost(), 0);
            }
        }
    }

    private static void dropReturnsLost() {
        for (int columns = 2; columns <= 9; columns++) {
            MarbleRamps x = Boards.laid(columns, 3);
            x.put(0, 0, 1);
            x.put(2, columns - 1, 2);
            Checks.due("drop(0) lost from the row 0", x.drop(0), -1);
            Checks.due("drop of the last column lost from the last row", x.drop(columns - 1), -1);
            Checks.due("lost()", x.lost(), 2);
            Checks.due("emptyBins()", x.emptyBins(), 0);
        }
    }

    private static void dropNoColumn() {
        Checks.refusesColumns("drop", (x, column) -> x.drop(column));
    }

    // ---- promise 8

    private static void runAtMost() {
        for (int most : new int[] {1, 2, 98, 99}) {
            MarbleRamps x = Boards.backAndForth(99, 99);
            x.run(1, most);
            Checks.due("emptyBins() behind run(1, " + most + ")", x.emptyBins(), most);
            Checks.due("marbles in hoppers", x.marblesIn(0) + x.marblesIn(1), 198 - most);
        }
    }

    private static void runReturns() {
        MarbleRamps x = new MarbleRamps();
        Checks.due("run(0, 1) of none", x.run(0, 1), 0);
        x.setHopper(0, 0, 99);
        Checks.due("run(0, 1) of 99", x.run(0, 1), 1);
        Checks.due("run(0, 99) of 98", x.run(0, 99), 98);
        x.setHopper(0, 0, 99);
        Checks.due("run(0, 99) of 99", x.run(0, 99), 99);
        x.put(0, 0, 1);
        x.setHopper(0, 0, 99);
        Checks.due("run(0, 99), whose first one is lost", x.run(0, 99), 1);
        x.put(0, 0, 3);
        x.turn(0, 0);
        Checks.due("run(0, 99), whose second one is lost", x.run(0, 99), 2);
    }

    private static void runHoppers() {
        Checks.refusesHoppers("run(n, 1)", (x, hopper) -> x.run(hopper, 1));
        Checks.refusesHoppers("run(n, 99)", (x, hopper) -> x.run(hopper, 99));
    }

    private static void runMost() {
        Checks.refusesArguments("run(0, n)", 1, 99, (x, most) -> x.run(0, most));
        Checks.refusesArguments("run(1, n)", 1, 99, (x, most) -> x.run(1, most));
    }

    // ---- promise 9

    private static void emptyReturns() {
        MarbleRamps x = new MarbleRamps();
        Checks.due("emptyBins() of none", x.emptyBins(), 0);
        x.drop(4);
        Checks.due("emptyBins() of one in the last bin", x.emptyBins(), 1);
        x.drop(0);
        x.drop(0);
        x.put(0, 0, 1);
        x.drop(0);
        Checks.due("emptyBins() without the lost one", x.emptyBins(), 2);
        Checks.due("emptyBins() again", x.emptyBins(), 0);
        MarbleRamps y = Boards.laid(9, 1);
        for (int time = 0; time < 50; time++) {
            y.setHopper(0, 0, 99);
            y.run(0, 99);
            y.setHopper(1, 8, 99);
            y.run(1, 99);
        }
        Checks.due("emptyBins() of many", y.emptyBins(), 9900);
    }

    private static void emptyEmpties() {
        for (int columns = 2; columns <= 9; columns++) {
            MarbleRamps x = Boards.laid(columns, 2);
            for (int column = 0; column < columns; column++) {
                x.drop(column);
            }
            x.put(1, 0, 1);
            x.drop(0);
            x.emptyBins();
            for (int column = 0; column < columns; column++) {
                Checks.due("binOf(" + column + ")", x.binOf(column), 0);
            }
            Checks.due("meanInBins()", x.meanInBins(), 0.0);
            Checks.due("lost(), which is no bin", x.lost(), 1);
            Checks.due("partAt(1, 0)", x.partAt(1, 0), 1);
        }
    }
}
