/** The boundary cases of the document's "What it is" and "Terms": a test of its own for each sentence. */
public final class BoundaryTermsTest {
    private static final Class<?> NO_INDEX = IndexOutOfBoundsException.class;
    private static final Class<?> NO_ARGUMENT = IllegalArgumentException.class;
    private static final Class<?> NO_STATE = IllegalStateException.class;

    public static void main(String[] args) {
        Checks.sentence("An object is used for at most 512 calls", BoundaryTermsTest::calls512);
        board();
        parts();
        ways();
        hoppersAndRuns();
        exceptions();
        Checks.end();
    }

    private static void board() {
        Checks.sentence("The board has columns, 2 to 9", BoundaryTermsTest::columns2To9);
        Checks.sentence("and rows, 1 to 8", BoundaryTermsTest::rows1To8);
        Checks.sentence("(5 and 4, at first)", BoundaryTermsTest::sizeAtFirst);
        Checks.sentence("both numbered from 0", BoundaryTermsTest::numberedFrom0);
        Checks.sentence("the rows from the top", BoundaryTermsTest::rowsFromTheTop);
    }

    private static void parts() {
        Checks.sentence("0, nothing (at first)", BoundaryTermsTest::nothingAtFirst);
        Checks.sentence("1, a ramp to the left; 2, a ramp to the right; 3, a toggle; 4, a crossover; 5, a counter",
            BoundaryTermsTest::sixParts);
        Checks.sentence("A toggle leads to the left or to the right (to the left, at first)",
            BoundaryTermsTest::toggleAtFirst);
        Checks.sentence("A counter has a period, 2 to 9", BoundaryTermsTest::periods2To9);
        Checks.sentence("and has counted some marbles, 0 to the period less 1", BoundaryTermsTest::countedBelowPeriod);
        Checks.sentence("(0, at first)", BoundaryTermsTest::countedAtFirst);
    }

    private static void ways() {
        Checks.sentence("A marble falls from above into a column of the row 0; it comes straight",
            BoundaryTermsTest::comesStraight);
        Checks.sentence("nothing: it goes straight on", BoundaryTermsTest::nothingGoesStraight);
        Checks.sentence("a ramp: it goes to the left, or to the right", BoundaryTermsTest::ramps);
        Checks.sentence("a toggle: it goes where the toggle leads; then the toggle leads the other way",
            BoundaryTermsTest::toggleTurns);
        Checks.sentence("to the right, if it came going to the right", BoundaryTermsTest::crossoverToTheRight);
        Checks.sentence("to the left, if it came going to the left", BoundaryTermsTest::crossoverToTheLeft);
        Checks.sentence("otherwise straight", BoundaryTermsTest::crossoverStraight);
        Checks.sentence("if these are as many as the period, it goes to the right",
            BoundaryTermsTest::fullCounterToTheRight);
        Checks.sentence("and 0 are counted then", BoundaryTermsTest::fullCounterCounts0);
        Checks.sentence("otherwise it goes to the left", BoundaryTermsTest::counterToTheLeft);
        Checks.sentence("Straight on is the same column of the row below, to the left that with a number 1 less, "
            + "to the right 1 more", BoundaryTermsTest::oneColumnAside);
        Checks.sentence("A marble for which there is no such column is lost", BoundaryTermsTest::lostAside);
        Checks.sentence("One that leaves the last row lands in the bin of its column", BoundaryTermsTest::leavesLastRow);
    }

    private static void hoppersAndRuns() {
        Checks.sentence("There are two, 0 and 1", BoundaryTermsTest::twoHoppers);
        Checks.sentence("each is above a column (0 and the last one, at first", BoundaryTermsTest::hoppersAtFirst);
        Checks.sentence("and whenever a board is laid)", BoundaryTermsTest::hoppersOfABoardLaid);
        Checks.sentence("and has marbles, 0 to 99", BoundaryTermsTest::marbles0To99);
        Checks.sentence("(none, at first)", BoundaryTermsTest::noMarblesAtFirst);
        Checks.sentence("a marble of it falls, if it has one", BoundaryTermsTest::fallsIfItHasOne);
        Checks.sentence("from the hopper 0, if twice the number of the bin is less than the columns less 1",
            BoundaryTermsTest::nextFromHopper0);
        Checks.sentence("from the hopper 1, if it is more", BoundaryTermsTest::nextFromHopper1);
        Checks.sentence("if it is as many, the run ends", BoundaryTermsTest::endsInTheMiddle);
        Checks.sentence("It ends as well, if a marble is lost", BoundaryTermsTest::endsLost);
        Checks.sentence("if the hopper has none", BoundaryTermsTest::endsEmpty);
        Checks.sentence("or if as many fell as told", BoundaryTermsTest::endsAsTold);
    }

    private static void exceptions() {
        Checks.sentence("A method that throws an exception changes nothing", BoundaryTermsTest::refusedChangesNothing);
        Checks.sentence("If several exceptions apply, the one that is named first is thrown",
            BoundaryTermsTest::firstNamedIsThrown);
    }

    // ---- what it is

    private static void calls512() {
        MarbleRamps x = new MarbleRamps();
        for (int call = 1; call < 511; call += 2) {
            x.setHopper(0, 0, 99);
            Checks.due("run(0, 99) at call " + (call + 1), x.run(0, 99), 99);
        }
        Checks.due("binOf(0) at call 511", x.binOf(0), 255 * 99);
        Checks.due("emptyBins() at call 512", x.emptyBins(), 255 * 99);
        MarbleRamps y = Boards.full();
        for (int call = 1; call < 512; call++) {
            y.put(call % 8, call % 9, 3);
        }
        Checks.due("drop(0) at call 512", y.drop(0), -1);
    }

    // ---- the board

    private static void columns2To9() {
        MarbleRamps x = new MarbleRamps();
        for (int columns = 2; columns <= 9; columns++) {
            x.lay(columns, 3);
            Checks.due("columns()", x.columns(), columns);
            Checks.due("drop(" + (columns - 1) + ")", x.drop(columns - 1), columns - 1);
        }
        Checks.refuses(x, "lay(1, 3)", NO_ARGUMENT, () -> x.lay(1, 3));
        Checks.refuses(x, "lay(10, 3)", NO_ARGUMENT, () -> x.lay(10, 3));
    }

    private static void rows1To8() {
        MarbleRamps x = new MarbleRamps();
        for (int rows = 1; rows <= 8; rows++) {
            x.lay(9, rows);
            Checks.due("rows()", x.rows(), rows);
            for (int row = 0; row < rows; row++) {
                x.put(row, row, 2);
            }
            Checks.due("drop(0) over " + rows + " ramps", x.drop(0), rows);
        }
        Checks.refuses(x, "lay(9, 0)", NO_ARGUMENT, () -> x.lay(9, 0));
        Checks.refuses(x, "lay(9, 9)", NO_ARGUMENT, () -> x.lay(9, 9));
    }

    private static void sizeAtFirst() {
        MarbleRamps x = new MarbleRamps();
        Checks.due("columns()", x.columns(), 5);
        Checks.due("rows()", x.rows(), 4);
        Checks.due("partAt(3, 4)", x.partAt(3, 4), 0);
        Checks.refuses(x, "partAt(4, 0)", NO_INDEX, () -> x.partAt(4, 0));
        Checks.refuses(x, "partAt(0, 5)", NO_INDEX, () -> x.partAt(0, 5));
    }

    private static void numberedFrom0() {
        for (MarbleRamps x : Boards.several()) {
            int lastRow = x.rows() - 1;
            int lastColumn = x.columns() - 1;
            Checks.takes("put(0, 0, 1)", () -> x.put(0, 0, 1));
            Checks.takes("put of the last place", () -> x.put(lastRow, lastColumn, 2));
            Checks.due("partAt(0, 0)", x.partAt(0, 0), 1);
            Checks.due("partAt the last place", x.partAt(lastRow, lastColumn), 2);
            Checks.refuses(x, "partAt(-1, 0)", NO_INDEX, () -> x.partAt(-1, 0));
            Checks.refuses(x, "partAt(0, -1)", NO_INDEX, () -> x.partAt(0, -1));
            Checks.refuses(x, "partAt behind the last row", NO_INDEX, () -> x.partAt(lastRow + 1, 0));
            Checks.refuses(x, "partAt behind the last column", NO_INDEX, () -> x.partAt(0, lastColumn + 1));
        }
    }

    private static void rowsFromTheTop() {
        MarbleRamps x = Boards.laid(3, 8);
        x.put(0, 0, 2);
        x.put(7, 1, 2);
        Checks.due("drop(0) passes the row 0 first and the row 7 last", x.drop(0), 2);
        x.put(6, 2, 1);
        x.put(7, 2, 0);
        Checks.due("drop(2) passes the row 6 ahead of the row 7", x.drop(2), 2);
    }

    // ---- parts

    private static void nothingAtFirst() {
        MarbleRamps x = new MarbleRamps();
        for (int row = 0; row < 4; row++) {
            for (int column = 0; column < 5; column++) {
                Checks.due("partAt(" + row + ", " + column + ")", x.partAt(row, column), 0);
            }
        }
        MarbleRamps y = Boards.full();
        y.lay(9, 8);
        for (int row = 0; row < 8; row++) {
            for (int column = 0; column < 9; column++) {
                Checks.due("partAt(" + row + ", " + column + ") behind lay", y.partAt(row, column), 0);
            }
        }
    }

    private static void sixParts() {
        int[] ends = {2, 1, 3, 1, 2, 1};
        int[] endsAgain = {2, 1, 3, 3, 2, 3};
        for (int part = 0; part <= 5; part++) {
            MarbleRamps x = new MarbleRamps();
            Boards.putAny(x, 3, 2, part);
            Checks.due("partAt(3, 2)", x.partAt(3, 2), part);
            Checks.due("drop(2) over part " + part, x.drop(2), ends[part]);
            Checks.due("drop(2) over part " + part + " again", x.drop(2), endsAgain[part]);
            Checks.refuses(x, "put(3, 2, -1)", NO_ARGUMENT, () -> x.put(3, 2, -1));
            Checks.refuses(x, "put(3, 2, 6)", NO_ARGUMENT, () -> x.put(3, 2, 6));
        }
    }

    private static void toggleAtFirst() {
        MarbleRamps x = Boards.full();
        for (int row = 0; row < 8; row++) {
            for (int column = 0; column < 9; column++) {
                x.put(row, column, 3);
                Checks.due("leadsRight(" + row + ", " + column + ")", x.leadsRight(row, column), false);
            }
        }
        Checks.due("wouldBeIn(1, 1)", x.wouldBeIn(1, 1), 0);
    }

    private static void periods2To9() {
        for (int period = 2; period <= 9; period++) {
            MarbleRamps x = new MarbleRamps();
            x.putCounter(0, 2, period);
            int fallen = 1;
            while (fallen < 20 && x.drop(2) == 1) {
                fallen++;
            }
            Checks.due("the first marble to the right with a period of " + period, fallen, period);
        }
        MarbleRamps x = Boards.busy();
        Checks.refuses(x, "putCounter(0, 2, 1)", NO_ARGUMENT, () -> x.putCounter(0, 2, 1));
        Checks.refuses(x, "putCounter(0, 2, 10)", NO_ARGUMENT, () -> x.putCounter(0, 2, 10));
    }

    private static void countedBelowPeriod() {
        for (int period = 2; period <= 9; period++) {
            MarbleRamps x = new MarbleRamps();
            x.putCounter(0, 2, period);
            int least = 99;
            int most = -99;
            for (int fallen = 0; fallen < 3 * period; fallen++) {
                least = Math.min(least, x.countAt(0, 2));
                most = Math.max(most, x.countAt(0, 2));
                x.drop(2);
            }
            Checks.due("the fewest counted with a period of " + period, least, 0);
            Checks.due("the most counted with a period of " + period, most, period - 1);
        }
    }

    private static void countedAtFirst() {
        MarbleRamps x = Boards.full();
        for (int period = 2; period <= 9; period++) {
            x.putCounter(period - 2, 8, period);
            Checks.due("countAt(" + (period - 2) + ", 8)", x.countAt(period - 2, 8), 0);
        }
    }

    // ---- ways

    private static void comesStraight() {
        MarbleRamps x = new MarbleRamps();
        x.put(0, 1, 1);
        x.put(0, 3, 2);
        for (int column : new int[] {0, 2, 4}) {
            x.put(0, column, 4);
            Checks.due("drop(" + column + ") onto a crossover", x.drop(column), column);
            x.drop(1);
            Checks.due("drop(" + column + ") behind one to the left", x.drop(column), column);
            x.drop(3);
            Checks.due("drop(" + column + ") behind one to the right", x.drop(column), column);
        }
        MarbleRamps y = Boards.laid(2, 1);
        y.put(0, 0, 2);
        y.put(0, 1, 4);
        y.setHopper(0, 0, 1);
        y.setHopper(1, 1, 4);
        Checks.due("run(0, 9) onto a crossover behind one to the right", y.run(0, 9), 5);
        Checks.due("binOf(1)", y.binOf(1), 5);
    }

    private static void nothingGoesStraight() {
        MarbleRamps x = Boards.laid(9, 8);
        for (int column = 0; column < 9; column++) {
            Checks.due("drop(" + column + ") through eight rows", x.drop(column), column);
        }
        x.put(0, 3, 2);
        x.put(2, 4, 4);
        Checks.due("drop(3) from a ramp over nothing to a crossover", x.drop(3), 4);
    }

    private static void ramps() {
        for (int column = 1; column <= 7; column++) {
            MarbleRamps x = Boards.laid(9, 1);
            x.put(0, column, 1);
            for (int marble = 0; marble < 3; marble++) {
                Checks.due("drop(" + column + ") to the left", x.drop(column), column - 1);
            }
            x.put(0, column, 2);
            for (int marble = 0; marble < 3; marble++) {
                Checks.due("drop(" + column + ") to the right", x.drop(column), column + 1);
            }
        }
    }

    private static void toggleTurns() {
        MarbleRamps x = new MarbleRamps();
        x.put(2, 2, 3);
        for (int marble = 0; marble < 12; marble++) {
            boolean right = marble % 2 == 1;
            Checks.due("leadsRight(2, 2) ahead of marble " + marble, x.leadsRight(2, 2), right);
            Checks.due("drop(2), marble " + marble, x.drop(2), right ? 3 : 1);
        }
        x.put(3, 3, 1);
        x.turn(2, 2);
        Checks.due("drop(2) with the toggle to the right", x.drop(2), 2);
        Checks.due("leadsRight(2, 2) then", x.leadsRight(2, 2), false);
        MarbleRamps y = Boards.laid(2, 2);
        y.put(0, 0, 3);
        Checks.due("drop(0), lost", y.drop(0), -1);
        Checks.due("leadsRight(0, 0) behind a lost one", y.leadsRight(0, 0), true);
    }

    private static void crossoverToTheRight() {
        for (int part : new int[] {2, 3, 5}) {
            MarbleRamps x = Boards.laid(9, 8);
            Boards.putAny(x, 0, 0, part);
            if (part != 2) {
                x.drop(0);
            }
            for (int row = 1; row < 8; row++) {
                x.put(row, row, 4);
            }
            Checks.due("drop(0) from part " + part + " through seven crossovers", x.drop(0), 8);
        }
    }

    private static void crossoverToTheLeft() {
        for (int part : new int[] {1, 3, 5}) {
            MarbleRamps x = Boards.laid(9, 8);
            Boards.putAny(x, 0, 8, part);
            for (int row = 1; row < 8; row++) {
                x.put(row, 8 - row, 4);
            }
            Checks.due("drop(8) from part " + part + " through seven crossovers", x.drop(8), 0);
        }
    }

    private static void crossoverStraight() {
        MarbleRamps x = Boards.laid(9, 8);
        for (int row = 0; row < 8; row++) {
            x.put(row, 0, 4);
            x.put(row, 4, 4);
            x.put(row, 8, 4);
        }
        Checks.due("drop(0) through eight crossovers", x.drop(0), 0);
        Checks.due("drop(4) through eight crossovers", x.drop(4), 4);
        Checks.due("drop(8) through eight crossovers", x.drop(8), 8);
        x.put(0, 5, 1);
        x.put(1, 4, 0);
        Checks.due("drop(5) from a ramp over nothing", x.drop(5), 4);
        x.put(1, 3, 0);
        x.put(0, 3, 2);
        Checks.due("drop(3) from a ramp over nothing", x.drop(3), 4);
    }

    private static void fullCounterToTheRight() {
        for (int period = 2; period <= 9; period++) {
            MarbleRamps x = new MarbleRamps();
            x.putCounter(0, 2, period);
            for (int round = 0; round < 3; round++) {
                for (int marble = 1; marble < period; marble++) {
                    x.drop(2);
                }
                Checks.due("drop(2) of a full period of " + period, x.drop(2), 3);
            }
            Checks.due("binOf(3)", x.binOf(3), 3);
        }
    }

    private static void fullCounterCounts0() {
        for (int period = 2; period <= 9; period++) {
            MarbleRamps x = new MarbleRamps();
            x.putCounter(3, 4, period);
            for (int marble = 1; marble <= 3 * period; marble++) {
                x.drop(4);
                if (marble % period == 0) {
                    Checks.due("countAt(3, 4) behind a full period of " + period, x.countAt(3, 4), 0);
                }
            }
            Checks.due("lost() of the full ones, which go to the right", x.lost(), 3);
        }
    }

    private static void counterToTheLeft() {
        for (int period = 2; period <= 9; period++) {
            MarbleRamps x = new MarbleRamps();
            x.putCounter(0, 2, period);
            for (int marble = 1; marble < 3 * period; marble++) {
                int end = x.drop(2);
                if (marble % period != 0) {
                    Checks.due("drop(2) of a period of " + period + " that is not full", end, 1);
                    Checks.due("countAt(0, 2), 1 more", x.countAt(0, 2), marble % period);
                }
            }
        }
    }

    private static void oneColumnAside() {
        MarbleRamps x = Boards.laid(9, 8);
        for (int row = 0; row < 8; row++) {
            x.put(row, 8 - row, 1);
        }
        for (int row = 0; row < 8; row++) {
            Checks.due("wouldBeIn(8, " + row + ")", x.wouldBeIn(8, row), 8 - row);
        }
        Checks.due("drop(8), eight to the left", x.drop(8), 0);
        for (int row = 0; row < 8; row++) {
            x.put(row, 8 - row, 0);
            x.put(row, row, 2);
        }
        for (int row = 0; row < 8; row++) {
            Checks.due("wouldBeIn(0, " + row + ")", x.wouldBeIn(0, row), row);
        }
        Checks.due("drop(0), eight to the right", x.drop(0), 8);
        x.lay(9, 8);
        Checks.due("drop(0) straight on along the edge", x.drop(0), 0);
        Checks.due("drop(8) straight on along the edge", x.drop(8), 8);
    }

    private static void lostAside() {
        for (int columns = 2; columns <= 9; columns++) {
            for (int row = 0; row < 3; row++) {
                lostAt(columns, row, 0, 1, true);
                lostAt(columns, row, columns - 1, 2, true);
                lostAt(columns, row, 0, 3, true);
                lostAt(columns, row, columns - 1, 3, false);
                lostAt(columns, row, 0, 5, true);
                lostAt(columns, row, columns - 1, 5, false);
            }
        }
        lostThroughCrossovers();
    }

    /** The first marble or the second one is lost, in no bin, and turns nothing over that is not on its way. */
    private static void lostAt(int columns, int row, int column, int part, boolean first) {
        MarbleRamps x = Boards.laid(columns, 3);
        Boards.putAny(x, row, column, part);
        if (!first) {
            x.drop(column);
            x.emptyBins();
        }
        String call = "drop(" + column + ") over part " + part + " in the row " + row + " of " + columns + " columns";
        Checks.due(call, x.drop(column), -1);
        Checks.due("lost() behind " + call, x.lost(), 1);
        Checks.due("emptyBins() behind " + call, x.emptyBins(), 0);
    }

    private static void lostThroughCrossovers() {
        MarbleRamps x = Boards.laid(3, 3);
        x.put(0, 1, 1);
        x.put(1, 0, 4);
        x.put(1, 2, 3);
        x.put(2, 2, 3);
        Checks.due("drop(1) to the left out of a crossover", x.drop(1), -1);
        Checks.due("numberIn(1) at the other edge", x.numberIn(1), 0);
        Checks.due("numberIn(2) at the other edge", x.numberIn(2), 0);
        x.put(0, 1, 2);
        x.put(1, 2, 4);
        x.put(2, 0, 3);
        Checks.due("drop(1) to the right out of a crossover", x.drop(1), -1);
        Checks.due("numberIn(2) at the other edge again", x.numberIn(2), 0);
        Checks.due("lost()", x.lost(), 2);
    }

    private static void leavesLastRow() {
        for (int rows = 1; rows <= 8; rows++) {
            MarbleRamps x = Boards.laid(5, rows);
            x.put(rows - 1, 0, 2);
            x.put(rows - 1, 2, 1);
            x.put(rows - 1, 4, 3);
            int[] ends = {1, 1, 1, 3, 3};
            for (int column = 0; column < 5; column++) {
                Checks.due("drop(" + column + ") through " + rows + " rows", x.drop(column), ends[column]);
            }
            int[] bins = {0, 3, 0, 2, 0};
            for (int column = 0; column < 5; column++) {
                Checks.due("binOf(" + column + ") below " + rows + " rows", x.binOf(column), bins[column]);
            }
        }
    }

    // ---- hoppers

    private static void twoHoppers() {
        for (MarbleRamps x : Boards.several()) {
            for (int hopper : new int[] {0, 1}) {
                int before = x.marblesIn(hopper);
                Checks.due("setHopper(" + hopper + ", 0, 3)", x.setHopper(hopper, 0, 3), before);
                Checks.due("marblesIn(" + hopper + ")", x.marblesIn(hopper), 3);
            }
            for (int hopper : new int[] {-1, 2}) {
                Checks.refuses(x, "setHopper(" + hopper + ", 0, 3)", NO_INDEX, () -> x.setHopper(hopper, 0, 3));
                Checks.refuses(x, "run(" + hopper + ", 1)", NO_INDEX, () -> x.run(hopper, 1));
                Checks.refuses(x, "marblesIn(" + hopper + ")", NO_INDEX, () -> x.marblesIn(hopper));
                Checks.refuses(x, "columnOf(" + hopper + ")", NO_INDEX, () -> x.columnOf(hopper));
                Checks.refuses(x, "wouldRun(" + hopper + ")", NO_INDEX, () -> x.wouldRun(hopper));
            }
        }
    }

    private static void hoppersAtFirst() {
        MarbleRamps x = new MarbleRamps();
        Checks.due("columnOf(0)", x.columnOf(0), 0);
        Checks.due("columnOf(1)", x.columnOf(1), 4);
    }

    private static void hoppersOfABoardLaid() {
        MarbleRamps x = new MarbleRamps();
        for (int columns = 2; columns <= 9; columns++) {
            for (int time = 0; time < 2; time++) {
                x.lay(columns, 2);
                Checks.due("columnOf(0) of " + columns, x.columnOf(0), 0);
                Checks.due("columnOf(1) of " + columns, x.columnOf(1), columns - 1);
                x.setHopper(0, columns - 1, 1);
                x.setHopper(1, 0, 1);
            }
        }
        x.lay(2, 1);
        Checks.due("columnOf(0) above the smallest board", x.columnOf(0), 0);
        Checks.due("columnOf(1) above the smallest board", x.columnOf(1), 1);
    }

    private static void marbles0To99() {
        MarbleRamps x = new MarbleRamps();
        for (int hopper = 0; hopper < 2; hopper++) {
            for (int marbles : new int[] {0, 1, 98, 99}) {
                x.setHopper(hopper, 2, marbles);
                Checks.due("marblesIn(" + hopper + ")", x.marblesIn(hopper), marbles);
            }
            int above = hopper;
            Checks.refuses(x, "setHopper(" + hopper + ", 2, -1)", NO_ARGUMENT, () -> x.setHopper(above, 2, -1));
            Checks.refuses(x, "setHopper(" + hopper + ", 2, 100)", NO_ARGUMENT, () -> x.setHopper(above, 2, 100));
        }
        x.setHopper(0, 0, 1);
        x.run(0, 99);
        x.run(0, 99);
        Checks.due("marblesIn(0), never fewer than none", x.marblesIn(0), 0);
    }

    private static void noMarblesAtFirst() {
        MarbleRamps x = new MarbleRamps();
        for (int hopper = 0; hopper < 2; hopper++) {
            Checks.due("marblesIn(" + hopper + ")", x.marblesIn(hopper), 0);
            Checks.due("run(" + hopper + ", 99)", x.run(hopper, 99), 0);
            Checks.due("setHopper(" + hopper + ", 0, 5)", x.setHopper(hopper, 0, 5), 0);
        }
    }

    // ---- a run

    private static void fallsIfItHasOne() {
        MarbleRamps x = new MarbleRamps();
        x.put(0, 0, 3);
        x.setHopper(1, 0, 9);
        String before = Checks.everything(x);
        Checks.due("run(0, 9) of none, though the hopper 1 has 9", x.run(0, 9), 0);
        Checks.due("everything behind it", Checks.everything(x), before);
        x.setHopper(0, 2, 1);
        Checks.due("run(0, 9) of one", x.run(0, 9), 1);
        Checks.due("marblesIn(0)", x.marblesIn(0), 0);
        Checks.due("marblesIn(1)", x.marblesIn(1), 9);
        Checks.due("binOf(2)", x.binOf(2), 1);
    }

    private static void nextFromHopper0() {
        for (int columns = 2; columns <= 9; columns++) {
            for (int bin = 0; 2 * bin < columns - 1; bin++) {
                MarbleRamps x = Boards.laid(columns, 1);
                x.setHopper(1, bin, 5);
                x.setHopper(0, columns - 1, 1);
                String board = " by the bin " + bin + " of " + columns;
                Checks.due("run(1, 2)" + board, x.run(1, 2), 2);
                Checks.due("marblesIn(0)" + board, x.marblesIn(0), 0);
                Checks.due("marblesIn(1)" + board, x.marblesIn(1), 4);
            }
        }
    }

    private static void nextFromHopper1() {
        for (int columns = 2; columns <= 9; columns++) {
            for (int bin = columns - 1; 2 * bin > columns - 1; bin--) {
                MarbleRamps x = Boards.laid(columns, 1);
                x.setHopper(0, bin, 5);
                x.setHopper(1, 0, 1);
                String board = " by the bin " + bin + " of " + columns;
                Checks.due("run(0, 2)" + board, x.run(0, 2), 2);
                Checks.due("marblesIn(0)" + board, x.marblesIn(0), 4);
                Checks.due("marblesIn(1)" + board, x.marblesIn(1), 0);
            }
        }
    }

    private static void endsInTheMiddle() {
        for (int columns = 3; columns <= 9; columns += 2) {
            for (int hopper = 0; hopper < 2; hopper++) {
                MarbleRamps x = Boards.laid(columns, 1);
                x.setHopper(0, columns / 2, 9);
                x.setHopper(1, columns / 2, 9);
                Checks.due("run(" + hopper + ", 99) to the middle of " + columns, x.run(hopper, 99), 1);
                Checks.due("marblesIn(" + hopper + ")", x.marblesIn(hopper), 8);
                Checks.due("marblesIn the other one", x.marblesIn(1 - hopper), 9);
            }
        }
        for (int columns = 2; columns <= 8; columns += 2) {
            MarbleRamps x = Boards.laid(columns, 1);
            x.setHopper(0, columns / 2 - 1, 9);
            x.setHopper(1, columns / 2, 9);
            Checks.due("run(0, 99) of " + columns + ", which have no middle", x.run(0, 99), 9);
            Checks.due("run(1, 99) of " + columns + ", which have no middle", x.run(1, 99), 9);
        }
    }

    private static void endsLost() {
        for (int column : new int[] {0, 4}) {
            MarbleRamps x = new MarbleRamps();
            x.put(3, column, column == 0 ? 1 : 2);
            x.setHopper(0, column, 9);
            x.setHopper(1, column, 9);
            for (int time = 1; time <= 3; time++) {
                Checks.due("run(0, 99) above the column " + column, x.run(0, 99), 1);
                Checks.due("marblesIn(0)", x.marblesIn(0), 9 - time);
                Checks.due("marblesIn(1)", x.marblesIn(1), 9);
                Checks.due("lost()", x.lost(), time);
            }
        }
    }

    private static void endsEmpty() {
        MarbleRamps x = new MarbleRamps();
        x.setHopper(0, 0, 7);
        x.setHopper(1, 3, 9);
        Checks.due("run(0, 99) until the hopper 0 has none", x.run(0, 99), 7);
        Checks.due("marblesIn(0)", x.marblesIn(0), 0);
        Checks.due("marblesIn(1), which is not asked for one", x.marblesIn(1), 9);
        x.setHopper(1, 0, 9);
        Checks.due("run(1, 99), whose second one is due from the empty hopper 0", x.run(1, 99), 1);
        Checks.due("marblesIn(1)", x.marblesIn(1), 8);
        MarbleRamps y = Boards.backAndForth(3, 2);
        Checks.due("run(0, 99) of 3 and 2", y.run(0, 99), 5);
        MarbleRamps z = Boards.backAndForth(3, 5);
        Checks.due("run(0, 99) of 3 and 5", z.run(0, 99), 6);
        Checks.due("marblesIn(1) of 3 and 5", z.marblesIn(1), 2);
    }

    private static void endsAsTold() {
        for (int most : new int[] {1, 2, 50, 98, 99}) {
            MarbleRamps x = new MarbleRamps();
            x.setHopper(1, 4, 99);
            Checks.due("run(1, " + most + ")", x.run(1, most), most);
            Checks.due("marblesIn(1) behind " + most, x.marblesIn(1), 99 - most);
            Checks.due("binOf(4) behind " + most, x.binOf(4), most);
        }
        MarbleRamps y = Boards.backAndForth(99, 99);
        Checks.due("run(0, 99) of 198", y.run(0, 99), 99);
        Checks.due("emptyBins()", y.emptyBins(), 99);
    }

    // ---- exceptions

    /** Each method that throws, for each reason that it has, alone on a board where nothing is as at first. */
    private static void refusedChangesNothing() {
        MarbleRamps x = Boards.busy();
        Checks.refuses(x, "lay(1, 4)", NO_ARGUMENT, () -> x.lay(1, 4));
        Checks.refuses(x, "lay(5, 9)", NO_ARGUMENT, () -> x.lay(5, 9));
        Checks.refuses(x, "put(4, 0, 1)", NO_INDEX, () -> x.put(4, 0, 1));
        Checks.refuses(x, "put(0, 5, 1)", NO_INDEX, () -> x.put(0, 5, 1));
        Checks.refuses(x, "put(0, 0, 5)", NO_ARGUMENT, () -> x.put(0, 0, 5));
        Checks.refuses(x, "putCounter(4, 0, 2)", NO_INDEX, () -> x.putCounter(4, 0, 2));
        Checks.refuses(x, "putCounter(0, 5, 2)", NO_INDEX, () -> x.putCounter(0, 5, 2));
        Checks.refuses(x, "putCounter(0, 0, 10)", NO_ARGUMENT, () -> x.putCounter(0, 0, 10));
        Checks.refuses(x, "turn(4, 0)", NO_INDEX, () -> x.turn(4, 0));
        Checks.refuses(x, "turn(0, 5)", NO_INDEX, () -> x.turn(0, 5));
        Checks.refuses(x, "turn(1, 1) of a counter", NO_STATE, () -> x.turn(1, 1));
        Checks.refuses(x, "turn(2, 4) of a counter", NO_STATE, () -> x.turn(2, 4));
        Checks.refuses(x, "turn(3, 0) of a ramp", NO_STATE, () -> x.turn(3, 0));
        Checks.refuses(x, "setHopper(2, 0, 1)", NO_INDEX, () -> x.setHopper(2, 0, 1));
        Checks.refuses(x, "setHopper(0, 5, 1)", NO_INDEX, () -> x.setHopper(0, 5, 1));
        Checks.refuses(x, "setHopper(0, 0, 100)", NO_ARGUMENT, () -> x.setHopper(0, 0, 100));
        Checks.refuses(x, "drop(5)", NO_INDEX, () -> x.drop(5));
        Checks.refuses(x, "run(2, 1)", NO_INDEX, () -> x.run(2, 1));
        Checks.refuses(x, "run(0, 100)", NO_ARGUMENT, () -> x.run(0, 100));
        refusedQuestionsChangeNothing(x);
        Checks.due("everything in the end", Checks.everything(x), Checks.everything(Boards.busy()));
    }

    private static void refusedQuestionsChangeNothing(MarbleRamps x) {
        Checks.refuses(x, "partAt(4, 0)", NO_INDEX, () -> x.partAt(4, 0));
        Checks.refuses(x, "leadsRight(0, 5)", NO_INDEX, () -> x.leadsRight(0, 5));
        Checks.refuses(x, "countAt(4, 5)", NO_INDEX, () -> x.countAt(4, 5));
        Checks.refuses(x, "binOf(5)", NO_INDEX, () -> x.binOf(5));
        Checks.refuses(x, "marblesIn(2)", NO_INDEX, () -> x.marblesIn(2));
        Checks.refuses(x, "columnOf(2)", NO_INDEX, () -> x.columnOf(2));
        Checks.refuses(x, "numberIn(4)", NO_INDEX, () -> x.numberIn(4));
        Checks.refuses(x, "wouldLand(5)", NO_INDEX, () -> x.wouldLand(5));
        Checks.refuses(x, "wouldBeIn(5, 0)", NO_INDEX, () -> x.wouldBeIn(5, 0));
        Checks.refuses(x, "wouldBeIn(0, 4)", NO_INDEX, () -> x.wouldBeIn(0, 4));
        Checks.refuses(x, "wouldTurn(5)", NO_INDEX, () -> x.wouldTurn(5));
        Checks.refuses(x, "lastLands(5, 1)", NO_INDEX, () -> x.lastLands(5, 1));
        Checks.refuses(x, "lastLands(0, 61)", NO_ARGUMENT, () -> x.lastLands(0, 61));
        Checks.refuses(x, "asBeforeIn(5)", NO_INDEX, () -> x.asBeforeIn(5));
        Checks.refuses(x, "wouldRun(2)", NO_INDEX, () -> x.wouldRun(2));
    }

    private static void firstNamedIsThrown() {
        MarbleRamps x = Boards.busy();
        for (int part : new int[] {-1, 5}) {
            Checks.refuses(x, "put(4, 0, " + part + ")", NO_INDEX, () -> x.put(4, 0, part));
            Checks.refuses(x, "put(0, 5, " + part + ")", NO_INDEX, () -> x.put(0, 5, part));
        }
        for (int period : new int[] {1, 10}) {
            Checks.refuses(x, "putCounter(4, 0, " + period + ")", NO_INDEX, () -> x.putCounter(4, 0, period));
            Checks.refuses(x, "putCounter(0, 5, " + period + ")", NO_INDEX, () -> x.putCounter(0, 5, period));
        }
        Checks.refuses(x, "turn(-1, 0), where no toggle can be", NO_INDEX, () -> x.turn(-1, 0));
        Checks.refuses(x, "turn(3, 5), where no toggle can be", NO_INDEX, () -> x.turn(3, 5));
        for (int marbles : new int[] {-1, 100}) {
            Checks.refuses(x, "setHopper(2, 0, " + marbles + ")", NO_INDEX, () -> x.setHopper(2, 0, marbles));
            Checks.refuses(x, "setHopper(0, 5, " + marbles + ")", NO_INDEX, () -> x.setHopper(0, 5, marbles));
        }
        for (int most : new int[] {0, 100}) {
            Checks.refuses(x, "run(2, " + most + ")", NO_INDEX, () -> x.run(2, most));
        }
        for (int marbles : new int[] {0, 61}) {
            Checks.refuses(x, "lastLands(5, " + marbles + ")", NO_INDEX, () -> x.lastLands(5, marbles));
        }
    }
}
