import java.math.BigInteger;

/** The boundary cases that promises 10 to 29 name: a test of its own for each sentence. */
public final class BoundaryAnswersTest {
    private static final String NO_PLACE = "Throws IndexOutOfBoundsException if there is no such row or column";
    private static final String NO_COLUMN = "Throws IndexOutOfBoundsException if there is no such column";
    private static final String NO_HOPPER = "Throws IndexOutOfBoundsException if hopper is not 0 or 1";
    private static final String UNCHANGED = "(nothing is changed)";

    public static void main(String[] args) {
        placesAndBins();
        hoppersAndToggles();
        oneMarble();
        severalMarbles();
        wholeBoard();
        Checks.end();
    }

    private static void placesAndBins() {
        Checks.sentence("10: Returns how many columns there are", BoundaryAnswersTest::columns);
        Checks.sentence("11: Returns how many rows there are", BoundaryAnswersTest::rows);
        Checks.sentence("12: Returns its part, 0 to 5", BoundaryAnswersTest::partAt);
        Checks.sentence("12: " + NO_PLACE, BoundaryAnswersTest::partAtPlaces);
        Checks.sentence("13: Returns whether there is a toggle that leads to the right",
            BoundaryAnswersTest::leadsRight);
        Checks.sentence("13: " + NO_PLACE, BoundaryAnswersTest::leadsRightPlaces);
        Checks.sentence("14: Returns how many its counter counted", BoundaryAnswersTest::countAt);
        Checks.sentence("14: 0 without one", BoundaryAnswersTest::countAtWithoutOne);
        Checks.sentence("14: " + NO_PLACE, BoundaryAnswersTest::countAtPlaces);
        Checks.sentence("15: Returns how many marbles its bin has", BoundaryAnswersTest::binOf);
        Checks.sentence("15: " + NO_COLUMN, BoundaryAnswersTest::binOfColumns);
        Checks.sentence("16: Returns how many marbles were lost since the board was laid", BoundaryAnswersTest::lost);
    }

    private static void hoppersAndToggles() {
        Checks.sentence("17: Returns how many marbles it has", BoundaryAnswersTest::marblesIn);
        Checks.sentence("17: " + NO_HOPPER, BoundaryAnswersTest::marblesInHoppers);
        Checks.sentence("18: Returns the column above which it is", BoundaryAnswersTest::columnOf);
        Checks.sentence("18: " + NO_HOPPER, BoundaryAnswersTest::columnOfHoppers);
        Checks.sentence("19: Returns how many toggles there are", BoundaryAnswersTest::toggles);
        Checks.sentence("20: the first one from the left counts 1, the next one 2, the next one 4, and so on",
            BoundaryAnswersTest::numberIn);
        Checks.sentence("20: each if it leads to the right", BoundaryAnswersTest::numberInToTheRight);
        Checks.sentence("20: Throws IndexOutOfBoundsException if there is no such row",
            BoundaryAnswersTest::numberInRows);
    }

    private static void oneMarble() {
        Checks.sentence("21: Returns where a marble that fell into it would land", BoundaryAnswersTest::wouldLand);
        Checks.sentence("21: -1 if it would be lost", BoundaryAnswersTest::wouldLandLost);
        Checks.sentence("21: " + UNCHANGED, BoundaryAnswersTest::wouldLandChangesNothing);
        Checks.sentence("21: " + NO_COLUMN, BoundaryAnswersTest::wouldLandColumns);
        Checks.sentence("22: Returns in which column of this row such a marble would be",
            BoundaryAnswersTest::wouldBeIn);
        Checks.sentence("22: -1 if it would be lost ahead of it", BoundaryAnswersTest::wouldBeInLost);
        Checks.sentence("22: " + UNCHANGED, BoundaryAnswersTest::wouldBeInChangesNothing);
        Checks.sentence("22: " + NO_PLACE, BoundaryAnswersTest::wouldBeInPlaces);
        Checks.sentence("23: Returns how many toggles such a marble would turn over", BoundaryAnswersTest::wouldTurn);
        Checks.sentence("23: " + UNCHANGED, BoundaryAnswersTest::wouldTurnChangesNothing);
        Checks.sentence("23: " + NO_COLUMN, BoundaryAnswersTest::wouldTurnColumns);
    }

    private static void severalMarbles() {
        Checks.sentence("24: Returns where the last of them would land, if they fell into it one behind the other",
            BoundaryAnswersTest::lastLands);
        Checks.sentence("24: -1 if it would be lost", BoundaryAnswersTest::lastLandsLost);
        Checks.sentence("24: " + UNCHANGED, BoundaryAnswersTest::lastLandsChangesNothing);
        Checks.sentence("24: " + NO_COLUMN, BoundaryAnswersTest::lastLandsColumns);
        Checks.sentence("24: Throws IllegalArgumentException if marbles is not 1 to 60",
            BoundaryAnswersTest::lastLandsMarbles);
        Checks.sentence("25: Returns the fewest marbles", BoundaryAnswersTest::asBeforeInFewest);
        Checks.sentence("25: 1 to 60", BoundaryAnswersTest::asBeforeIn1To60);
        Checks.sentence("25: all toggles and counters are as they are now", BoundaryAnswersTest::asBeforeInAsNow);
        Checks.sentence("25: -1 if there are none", BoundaryAnswersTest::asBeforeInNone);
        Checks.sentence("25: " + UNCHANGED, BoundaryAnswersTest::asBeforeInChangesNothing);
        Checks.sentence("25: " + NO_COLUMN, BoundaryAnswersTest::asBeforeInColumns);
        Checks.sentence("26: Returns how many marbles would fall in a run from it", BoundaryAnswersTest::wouldRun);
        Checks.sentence("26: 99 at the most", BoundaryAnswersTest::wouldRunAtMost);
        Checks.sentence("26: " + UNCHANGED, BoundaryAnswersTest::wouldRunChangesNothing);
        Checks.sentence("26: " + NO_HOPPER, BoundaryAnswersTest::wouldRunHoppers);
    }

    private static void wholeBoard() {
        Checks.sentence("27: Returns the column into which a marble would turn over the most toggles",
            BoundaryAnswersTest::bestColumn);
        Checks.sentence("27: of several the smallest number", BoundaryAnswersTest::bestColumnOfSeveral);
        Checks.sentence("27: " + UNCHANGED, BoundaryAnswersTest::bestColumnChangesNothing);
        Checks.sentence("28: Returns the mean of marbles in bins", BoundaryAnswersTest::meanInBins);
        Checks.sentence("29: A number d starts with 2239; for each of the following numbers x, d becomes d * 31 + x",
            BoundaryAnswersTest::digest);
        Checks.sentence("29: which wraps around as a 64-bit integer", BoundaryAnswersTest::digestWraps);
        Checks.sentence("29: (whether something is so counts 1 or 0)", BoundaryAnswersTest::digestCounts1Or0);
    }

    // ---- promises 10 to 16

    private static void columns() {
        MarbleRamps x = new MarbleRamps();
        Checks.due("columns() of a new object", x.columns(), 5);
        for (int columns : new int[] {2, 9, 3, 8}) {
            x.lay(columns, 8);
            Checks.due("columns()", x.columns(), columns);
            int refused = columns < 5 ? 1 : 10;
            Checks.outcome(() -> x.lay(refused, 8));
            Checks.due("columns() behind a lay that is refused", x.columns(), columns);
        }
    }

    private static void rows() {
        MarbleRamps x = new MarbleRamps();
        Checks.due("rows() of a new object", x.rows(), 4);
        for (int rows : new int[] {1, 8, 2, 7}) {
            x.lay(9, rows);
            Checks.due("rows()", x.rows(), rows);
            int refused = rows < 5 ? 0 : 9;
            Checks.outcome(() -> x.lay(9, refused));
            Checks.due("rows() behind a lay that is refused", x.rows(), rows);
        }
    }

    private static void partAt() {
        for (MarbleRamps x : Boards.several()) {
            for (int part = 0; part <= 5; part++) {
                for (int row : new int[] {0, x.rows() - 1}) {
                    for (int column : new int[] {0, x.columns() - 1}) {
                        Boards.putAny(x, row, column, part);
                        Checks.due("partAt(" + row + ", " + column + ")", x.partAt(row, column), part);
                        x.drop(column);
                        Checks.due("partAt behind a marble", x.partAt(row, column), part);
                    }
                }
            }
        }
    }

    private static void partAtPlaces() {
        Checks.refusesPlaces("partAt", (x, row, column) -> x.partAt(row, column));
    }

    private static void leadsRight() {
        for (int part = 0; part <= 5; part++) {
            MarbleRamps x = new MarbleRamps();
            Boards.putAny(x, 3, 4, part);
            Checks.due("leadsRight(3, 4) of a new part " + part, x.leadsRight(3, 4), false);
            x.drop(4);
            Checks.due("leadsRight(3, 4) of part " + part + " behind 1", x.leadsRight(3, 4), part == 3);
            x.drop(4);
            Checks.due("leadsRight(3, 4) of part " + part + " behind 2", x.leadsRight(3, 4), false);
        }
    }

    private static void leadsRightPlaces() {
        Checks.refusesPlaces("leadsRight", (x, row, column) -> x.leadsRight(row, column));
    }

    private static void countAt() {
        for (int period = 2; period <= 9; period++) {
            MarbleRamps x = new MarbleRamps();
            x.putCounter(3, 4, period);
            for (int marbles = 0; marbles <= 2 * period; marbles++) {
                Checks.due("countAt(3, 4) behind " + marbles, x.countAt(3, 4), marbles % period);
                x.drop(4);
            }
        }
    }

    private static void countAtWithoutOne() {
        for (int part = 0; part <= 4; part++) {
            for (int row : new int[] {0, 3}) {
                for (int column : new int[] {0, 4}) {
                    MarbleRamps x = new MarbleRamps();
                    x.putCounter(row, column, 9);
                    x.drop(column);
                    x.put(row, column, part);
                    Checks.due("countAt of a new part " + part, x.countAt(row, column), 0);
                    x.drop(column);
                    Checks.due("countAt of part " + part + " behind a marble", x.countAt(row, column), 0);
                }
            }
        }
    }

    private static void countAtPlaces() {
        Checks.refusesPlaces("countAt", (x, row, column) -> x.countAt(row, column));
    }

    private static void binOf() {
        MarbleRamps x = Boards.laid(9, 1);
        for (int column : new int[] {0, 8}) {
            Checks.due("binOf(" + column + ") of none", x.binOf(column), 0);
            x.drop(column);
            Checks.due("binOf(" + column + ") of one", x.binOf(column), 1);
        }
        for (int time = 0; time < 20; time++) {
            x.setHopper(1, 8, 99);
            x.run(1, 99);
        }
        Checks.due("binOf(8) of many", x.binOf(8), 1981);
        Checks.due("binOf(0) beside them", x.binOf(0), 1);
        Checks.due("binOf(7) beside them", x.binOf(7), 0);
        x.emptyBins();
        Checks.due("binOf(8) behind emptyBins()", x.binOf(8), 0);
    }

    private static void binOfColumns() {
        Checks.refusesColumns("binOf", (x, column) -> x.binOf(column));
    }

    private static void lost() {
        MarbleRamps x = new MarbleRamps();
        Checks.due("lost() of a new object", x.lost(), 0);
        x.put(0, 0, 1);
        x.put(3, 4, 2);
        x.setHopper(0, 0, 9);
        x.drop(0);
        x.drop(4);
        x.run(0, 9);
        x.drop(2);
        Checks.due("lost() by drop and run", x.lost(), 3);
        x.emptyBins();
        x.wouldLand(0);
        Checks.due("lost() behind emptyBins() and wouldLand(0)", x.lost(), 3);
        x.lay(5, 4);
        Checks.due("lost() behind lay", x.lost(), 0);
        x.put(0, 0, 1);
        for (int marbles = 1; marbles <= 300; marbles++) {
            x.drop(0);
        }
        Checks.due("lost() of many", x.lost(), 300);
    }

    // ---- promises 17 to 20

    private static void marblesIn() {
        for (int hopper = 0; hopper < 2; hopper++) {
            MarbleRamps x = new MarbleRamps();
            Checks.due("marblesIn(" + hopper + ") at first", x.marblesIn(hopper), 0);
            x.setHopper(hopper, 4 * hopper, 99);
            Checks.due("marblesIn(" + hopper + ") of a full one", x.marblesIn(hopper), 99);
            x.drop(4 * hopper);
            Checks.due("marblesIn(" + hopper + ") behind drop", x.marblesIn(hopper), 99);
            x.run(hopper, 98);
            Checks.due("marblesIn(" + hopper + ") of the last one", x.marblesIn(hopper), 1);
            x.run(hopper, 98);
            Checks.due("marblesIn(" + hopper + ") of an empty one", x.marblesIn(hopper), 0);
            Checks.due("marblesIn the other one", x.marblesIn(1 - hopper), 0);
        }
    }

    private static void marblesInHoppers() {
        Checks.refusesHoppers("marblesIn", (x, hopper) -> x.marblesIn(hopper));
    }

    private static void columnOf() {
        for (MarbleRamps x : Boards.several()) {
            int last = x.columns() - 1;
            x.setHopper(0, last, 0);
            x.setHopper(1, 0, 0);
            Checks.due("columnOf(0)", x.columnOf(0), last);
            Checks.due("columnOf(1)", x.columnOf(1), 0);
            x.lay(9, 1);
            Checks.due("columnOf(0) behind lay", x.columnOf(0), 0);
            Checks.due("columnOf(1) behind lay", x.columnOf(1), 8);
        }
    }

    private static void columnOfHoppers() {
        Checks.refusesHoppers("columnOf", (x, hopper) -> x.columnOf(hopper));
    }

    private static void toggles() {
        MarbleRamps x = Boards.laid(9, 8);
        Checks.due("toggles() of none", x.toggles(), 0);
        for (int place = 0; place < 72; place++) {
            x.put(place / 9, place % 9, 3);
        }
        Checks.due("toggles() of nothing else", x.toggles(), 72);
        x.put(7, 8, 3);
        x.turn(0, 0);
        Checks.due("toggles() of new and turned ones", x.toggles(), 72);
        x.putCounter(7, 8, 2);
        x.put(0, 0, 0);
        Checks.due("toggles() without the first and the last one", x.toggles(), 70);
        x.lay(2, 1);
        Checks.due("toggles() behind lay", x.toggles(), 0);
    }

    private static void numberIn() {
        for (int columns = 2; columns <= 9; columns++) {
            MarbleRamps x = Boards.laid(columns, 8);
            for (int row : new int[] {0, 7}) {
                Checks.due("numberIn(" + row + ") without toggles", x.numberIn(row), 0);
                for (int column = 0; column < columns; column++) {
                    x.put(row, column, 3);
                    x.turn(row, column);
                    Checks.due("numberIn(" + row + ") of " + (column + 1), x.numberIn(row), (2 << column) - 1);
                }
                x.put(row, 0, 2);
                Checks.due("numberIn(" + row + ") without the first one", x.numberIn(row), (1 << columns - 1) - 1);
            }
        }
        MarbleRamps y = Boards.laid(9, 2);
        y.put(1, 8, 3);
        y.turn(1, 8);
        Checks.due("numberIn(1) of one in the last column", y.numberIn(1), 1);
        Checks.due("numberIn(0) beside it", y.numberIn(0), 0);
    }

    private static void numberInToTheRight() {
        MarbleRamps x = Boards.laid(9, 8);
        for (int column = 0; column < 9; column++) {
            x.put(7, column, 3);
        }
        Checks.due("numberIn(7), all to the left", x.numberIn(7), 0);
        for (int column = 0; column < 9; column++) {
            x.turn(7, column);
            Checks.due("numberIn(7), the column " + column + " to the right", x.numberIn(7), 1 << column);
            x.turn(7, column);
        }
        x.drop(8);
        Checks.due("numberIn(7) behind drop(8)", x.numberIn(7), 256);
        x.putCounter(7, 0, 2);
        x.drop(0);
        Checks.due("numberIn(7) with a counter that counted 1", x.numberIn(7), 128);
    }

    private static void numberInRows() {
        Checks.refusesRows("numberIn", (x, row) -> x.numberIn(row));
    }

    // ---- promises 21 to 23

    private static void wouldLand() {
        for (int columns = 2; columns <= 9; columns++) {
            MarbleRamps x = Boards.laid(columns, 8);
            for (int column : new int[] {0, columns - 1}) {
                Checks.due("wouldLand(" + column + ") of " + columns, x.wouldLand(column), column);
            }
            x.put(7, 1, 3);
            x.put(7, columns - 2, 3);
            Checks.due("wouldLand(1) of a toggle to the left", x.wouldLand(1), 0);
            x.turn(7, columns - 2);
            Checks.due("wouldLand of a toggle to the right", x.wouldLand(columns - 2), columns - 1);
        }
    }

    private static void wouldLandLost() {
        for (int row : new int[] {0, 7}) {
            for (int part : new int[] {1, 3, 5}) {
                MarbleRamps x = Boards.laid(9, 8);
                Boards.putAny(x, row, 0, part);
                Boards.putAny(x, row, 8, part == 1 ? 2 : part);
                if (part != 1) {
                    x.drop(8);
                }
                Checks.due("wouldLand(0) over part " + part, x.wouldLand(0), -1);
                Checks.due("wouldLand(8) over part " + part, x.wouldLand(8), -1);
            }
        }
    }

    private static void wouldLandChangesNothing() {
        Checks.changesNothing("wouldLand(0)", x -> x.wouldLand(0));
        Checks.changesNothing("wouldLand of the last column", x -> x.wouldLand(x.columns() - 1));
    }

    private static void wouldLandColumns() {
        Checks.refusesColumns("wouldLand", (x, column) -> x.wouldLand(column));
    }

    private static void wouldBeIn() {
        MarbleRamps x = Boards.laid(9, 8);
        for (int column = 0; column < 9; column++) {
            x.put(0, column, column < 8 ? 2 : 1);
            Checks.due("wouldBeIn(" + column + ", 0), above its part", x.wouldBeIn(column, 0), column);
            Checks.due("wouldBeIn(" + column + ", 1)", x.wouldBeIn(column, 1), column < 8 ? column + 1 : 7);
            Checks.due("wouldBeIn(" + column + ", 7)", x.wouldBeIn(column, 7), column < 8 ? column + 1 : 7);
        }
        x.put(7, 1, 1);
        Checks.due("wouldBeIn(0, 7), above the part of the last row", x.wouldBeIn(0, 7), 1);
        x.put(6, 1, 1);
        Checks.due("wouldBeIn(0, 7), below the part of the row 6", x.wouldBeIn(0, 7), 0);
        MarbleRamps y = Boards.laid(2, 1);
        y.put(0, 0, 1);
        Checks.due("wouldBeIn(0, 0) of one row, lost from it", y.wouldBeIn(0, 0), 0);
    }

    private static void wouldBeInLost() {
        for (int lostFrom = 0; lostFrom < 8; lostFrom++) {
            MarbleRamps x = Boards.laid(9, 8);
            x.put(lostFrom, 0, 1);
            x.put(lostFrom, 8, 2);
            for (int row = 0; row < 8; row++) {
                boolean lost = row > lostFrom;
                String call = " with a loss from the row " + lostFrom;
                Checks.due("wouldBeIn(0, " + row + ")" + call, x.wouldBeIn(0, row), lost ? -1 : 0);
                Checks.due("wouldBeIn(8, " + row + ")" + call, x.wouldBeIn(8, row), lost ? -1 : 8);
            }
        }
    }

    private static void wouldBeInChangesNothing() {
        Checks.changesNothing("wouldBeIn(0, 0)", x -> x.wouldBeIn(0, 0));
        Checks.changesNothing("wouldBeIn of the last ones", x -> x.wouldBeIn(x.columns() - 1, x.rows() - 1));
    }

    private static void wouldBeInPlaces() {
        Checks.refusesPlaces("wouldBeIn", (x, row, column) -> x.wouldBeIn(column, row));
    }

    private static void wouldTurn() {
        MarbleRamps x = Boards.laid(9, 8);
        Checks.due("wouldTurn(4) of none", x.wouldTurn(4), 0);
        for (int row = 0; row < 8; row++) {
            x.put(row, row, 3);
            x.turn(row, row);
            Checks.due("wouldTurn(0) of " + (row + 1) + " toggles on its way", x.wouldTurn(0), row + 1);
        }
        Checks.due("wouldTurn(8) beside them", x.wouldTurn(8), 0);
        for (int row = 0; row < 8; row++) {
            x.turn(row, row);
        }
        Checks.due("wouldTurn(0), lost behind the first one", x.wouldTurn(0), 1);
        MarbleRamps y = Boards.laid(2, 1);
        y.put(0, 0, 3);
        Checks.due("wouldTurn(0) of one in the last row, lost from it", y.wouldTurn(0), 1);
        y.putCounter(0, 0, 2);
        Checks.due("wouldTurn(0) of a counter", y.wouldTurn(0), 0);
        y.drop(0);
        Checks.due("wouldTurn(0) of a counter that gets full", y.wouldTurn(0), 0);
    }

    private static void wouldTurnChangesNothing() {
        Checks.changesNothing("wouldTurn(0)", x -> x.wouldTurn(0));
        Checks.changesNothing("wouldTurn of the last column", x -> x.wouldTurn(x.columns() - 1));
    }

    private static void wouldTurnColumns() {
        Checks.refusesColumns("wouldTurn", (x, column) -> x.wouldTurn(column));
    }

    // ---- promises 24 to 26

    private static void lastLands() {
        MarbleRamps x = Boards.tree();
        int[] ends = {0, 2, 2, 4};
        for (int marbles = 1; marbles <= 60; marbles++) {
            Checks.due("lastLands(2, " + marbles + ")", x.lastLands(2, marbles), ends[(marbles - 1) % 4]);
        }
        x.putCounter(1, 1, 9);
        x.turn(0, 2);
        // With the toggle turned, each second marble comes to the counter: the 18th is its ninth one.
        for (int marbles = 2; marbles <= 60; marbles += 2) {
            Checks.due("lastLands(2, " + marbles + ") over a counter", x.lastLands(2, marbles),
                marbles % 18 == 0 ? 2 : 0);
        }
        MarbleRamps y = Boards.laid(2, 1);
        Checks.due("lastLands(1, 1)", y.lastLands(1, 1), 1);
        Checks.due("lastLands(1, 60)", y.lastLands(1, 60), 1);
    }

    private static void lastLandsLost() {
        MarbleRamps x = Boards.laid(9, 8);
        x.putCounter(7, 0, 6);
        x.put(0, 8, 3);
        for (int marbles = 1; marbles <= 60; marbles++) {
            Checks.due("lastLands(0, " + marbles + ")", x.lastLands(0, marbles), marbles % 6 == 0 ? 1 : -1);
            Checks.due("lastLands(8, " + marbles + ")", x.lastLands(8, marbles), marbles % 2 == 0 ? -1 : 7);
        }
    }

    private static void lastLandsChangesNothing() {
        Checks.changesNothing("lastLands(0, 1)", x -> x.lastLands(0, 1));
        Checks.changesNothing("lastLands of the last column", x -> x.lastLands(x.columns() - 1, 59));
    }

    private static void lastLandsColumns() {
        Checks.refusesColumns("lastLands(n, 1)", (x, column) -> x.lastLands(column, 1));
        Checks.refusesColumns("lastLands(n, 60)", (x, column) -> x.lastLands(column, 60));
    }

    private static void lastLandsMarbles() {
        Checks.refusesArguments("lastLands(0, n)", 1, 60, (x, marbles) -> x.lastLands(0, marbles));
        Checks.refusesArguments("lastLands of the last column", 1, 60,
            (x, marbles) -> x.lastLands(x.columns() - 1, marbles));
    }

    /** The column 4 is as before behind so many: the second counter gets all but 1 of the first one's period. */
    private static MarbleRamps twoCounters(int first, int second) {
        MarbleRamps x = Boards.laid(9, 2);
        x.putCounter(0, 4, first);
        x.putCounter(1, 3, second);
        return x;
    }

    private static void asBeforeInFewest() {
        for (int period = 2; period <= 9; period++) {
            MarbleRamps x = new MarbleRamps();
            x.putCounter(0, 0, period);
            Checks.due("asBeforeIn(0) of a period of " + period, x.asBeforeIn(0), period);
        }
        Checks.due("asBeforeIn(2) of three toggles", Boards.tree().asBeforeIn(2), 4);
        Checks.due("asBeforeIn(4), all 7 of 8 in a period of 7", twoCounters(8, 7).asBeforeIn(4), 8);
        Checks.due("asBeforeIn(4), 2 of 3 in a period of 4", twoCounters(3, 4).asBeforeIn(4), 6);
    }

    private static void asBeforeIn1To60() {
        for (int part : new int[] {0, 1, 2, 4}) {
            MarbleRamps x = new MarbleRamps();
            x.put(0, 4, 3);
            x.turn(0, 4);
            x.put(0, 0, part);
            x.put(3, 0, part);
            Checks.due("asBeforeIn(0) that turns nothing over", x.asBeforeIn(0), 1);
        }
        Checks.due("asBeforeIn(4), 56 of 8 and 7", right(8, 7).asBeforeIn(4), 56);
        MarbleRamps sixty = twoCounters(5, 3);
        sixty.putCounter(1, 5, 4);
        Checks.due("asBeforeIn(4), 60 of 5, 3 and 4", sixty.asBeforeIn(4), 60);
    }

    /** The second counter gets 1 of the first one's period, so that all is as before behind their product. */
    private static MarbleRamps right(int first, int second) {
        MarbleRamps x = Boards.laid(9, 2);
        x.putCounter(0, 4, first);
        x.putCounter(1, 5, second);
        return x;
    }

    private static void asBeforeInAsNow() {
        MarbleRamps x = Boards.tree();
        x.putCounter(2, 0, 3);
        x.put(0, 4, 3);
        x.turn(0, 4);
        for (int step = 0; step < 13; step++) {
            Checks.due("asBeforeIn(2) from step " + step, x.asBeforeIn(2), 12);
            Checks.due("asBeforeIn(0) from step " + step, x.asBeforeIn(0), 3);
            Checks.due("asBeforeIn(4) from step " + step, x.asBeforeIn(4), 4);
            x.drop(2);
        }
        MarbleRamps y = new MarbleRamps();
        y.putCounter(0, 2, 2);
        y.put(1, 3, 3);
        Checks.due("asBeforeIn(2) of a counter and a toggle below it", y.asBeforeIn(2), 4);
        y.put(1, 3, 0);
        Checks.due("asBeforeIn(2) of the counter alone", y.asBeforeIn(2), 2);
    }

    private static void asBeforeInNone() {
        Checks.due("asBeforeIn(4), 63 of 9 and 7", right(9, 7).asBeforeIn(4), -1);
        Checks.due("asBeforeIn(4), 63 of 7 and 9", right(7, 9).asBeforeIn(4), -1);
        Checks.due("asBeforeIn(4), 64 of 8 and 8", right(8, 8).asBeforeIn(4), -1);
        Checks.due("asBeforeIn(4), 72 of 8 and 9", twoCounters(8, 9).asBeforeIn(4), -1);
        Checks.due("asBeforeIn(4), 81 of 9 and 9", right(9, 9).asBeforeIn(4), -1);
        MarbleRamps x = right(9, 7);
        Checks.due("asBeforeIn(5) of the second counter alone", x.asBeforeIn(5), 7);
        Checks.due("asBeforeIn(3) beside both", x.asBeforeIn(3), 1);
    }

    private static void asBeforeInChangesNothing() {
        Checks.changesNothing("asBeforeIn(0)", x -> x.asBeforeIn(0));
        Checks.changesNothing("asBeforeIn of the last column", x -> x.asBeforeIn(x.columns() - 1));
    }

    private static void asBeforeInColumns() {
        Checks.refusesColumns("asBeforeIn", (x, column) -> x.asBeforeIn(column));
    }

    private static void wouldRun() {
        MarbleRamps x = new MarbleRamps();
        Checks.due("wouldRun(0) of none", x.wouldRun(0), 0);
        Checks.due("wouldRun(1) of none", x.wouldRun(1), 0);
        x.setHopper(0, 0, 1);
        Checks.due("wouldRun(0) of one", x.wouldRun(0), 1);
        Checks.due("wouldRun(1) of none beside it", x.wouldRun(1), 0);
        x.setHopper(0, 2, 9);
        Checks.due("wouldRun(0) to the middle", x.wouldRun(0), 1);
        x.put(0, 0, 1);
        x.setHopper(0, 0, 9);
        Checks.due("wouldRun(0) lost", x.wouldRun(0), 1);
        x.setHopper(1, 1, 1);
        Checks.due("wouldRun(1) lost later", x.wouldRun(1), 2);
        Checks.due("wouldRun(1) between the hoppers", Boards.backAndForth(3, 2).wouldRun(1), 4);
    }

    private static void wouldRunAtMost() {
        Checks.due("wouldRun(0) of 98", Boards.backAndForth(49, 49).wouldRun(0), 98);
        Checks.due("wouldRun(0) of 99", Boards.backAndForth(50, 49).wouldRun(0), 99);
        Checks.due("wouldRun(0) of 100", Boards.backAndForth(50, 50).wouldRun(0), 99);
        Checks.due("wouldRun(1) of 198", Boards.backAndForth(99, 99).wouldRun(1), 99);
        MarbleRamps x = new MarbleRamps();
        x.setHopper(1, 4, 99);
        Checks.due("wouldRun(1) of 99 of one hopper", x.wouldRun(1), 99);
    }

    private static void wouldRunChangesNothing() {
        Checks.changesNothing("wouldRun(0)", x -> x.wouldRun(0));
        Checks.changesNothing("wouldRun(1)", x -> x.wouldRun(1));
    }

    private static void wouldRunHoppers() {
        Checks.refusesHoppers("wouldRun", (x, hopper) -> x.wouldRun(hopper));
    }

    // ---- promises 27 to 29

    private static void bestColumn() {
        for (int columns = 2; columns <= 9; columns++) {
            for (int best = 0; best < columns; best++) {
                MarbleRamps x = Boards.laid(columns, 3);
                x.put(2, best, 3);
                Checks.due("bestColumn() of one toggle in the column " + best, x.bestColumn(), best);
            }
        }
        MarbleRamps y = Boards.laid(9, 8);
        for (int row = 0; row < 8; row++) {
            y.put(row, 8 - row, 3);
            y.put(row, 0, row < 7 ? 3 : 0);
            y.putCounter(row, 1, 9);
            if (row < 7) {
                y.turn(row, 0);
            }
        }
        Checks.due("wouldTurn(0), back and forth between toggles and counters", y.wouldTurn(0), 4);
        Checks.due("bestColumn() of a long way", y.bestColumn(), 8);
    }

    private static void bestColumnOfSeveral() {
        for (int columns = 2; columns <= 9; columns++) {
            MarbleRamps x = Boards.laid(columns, 1);
            Checks.due("bestColumn() without toggles", x.bestColumn(), 0);
            x.put(0, columns - 1, 3);
            for (int column = columns - 2; column >= 0; column--) {
                x.put(0, column, 3);
                Checks.due("bestColumn() of " + columns + " columns", x.bestColumn(), column);
            }
            x.turn(0, columns - 1);
            Checks.due("bestColumn() with the last one turned", x.bestColumn(), 0);
        }
    }

    private static void bestColumnChangesNothing() {
        Checks.changesNothing("bestColumn()", x -> x.bestColumn());
    }

    private static void meanInBins() {
        for (int columns = 2; columns <= 9; columns++) {
            MarbleRamps x = Boards.laid(columns, 1);
            Checks.due("meanInBins() of none", x.meanInBins(), 0.0);
            x.drop(columns - 1);
            Checks.due("meanInBins() of one in " + columns, x.meanInBins(), 1.0 / columns);
            x.put(0, 0, 1);
            x.drop(0);
            Checks.due("meanInBins() without the lost one", x.meanInBins(), 1.0 / columns);
            for (int column = 1; column < columns; column++) {
                x.drop(column);
            }
            Checks.due("meanInBins() of as many as " + columns, x.meanInBins(), 1.0);
            x.emptyBins();
            Checks.due("meanInBins() behind emptyBins()", x.meanInBins(), 0.0);
        }
    }

    /** Written out, so that no answer of the object goes into what is due. */
    private static final int[] NEW_BOARD = {
        5, 4, 0, 0, 0, 0, 0, 0, 0, 4, 0,
        0, 0, 0, 0, 0, 0, 0, 0, 0, 0, 0, 0, 0, 0, 0, 0,
        0, 0, 0, 0, 0, 0, 0, 0, 0, 0, 0, 0, 0, 0, 0, 0,
        0, 0, 0, 0, 0, 0, 0, 0, 0, 0, 0, 0, 0, 0, 0, 0,
        0, 0, 0, 0, 0, 0, 0, 0, 0, 0, 0, 0, 0, 0, 0, 0,
        0, 0, 0, 1, 0, 1, 0, 1, 0, 2, 0, 1, 0, 3, 0, 1, 0, 4, 0, 1};
    private static final int[] SMALL_BOARD = {
        2, 1, 2, 1, 0, 99, 0, 3, 7, 1, 3, 1, 3, 1, 0, 5, 0, 1, 0, 1, 1, 2, 0, 0, 0, 3};
    private static final int[] LOST_BOARD = {
        2, 1, 2, 1, 0, 0, 0, 0, 0, 1, 0, 0, 3, 0, 0, 2, 0, 0, 0, -1, 1, 2, 0, -1, 0, 1};

    /** Two columns, one row: a toggle to the right and a counter that counted 1 of 3. */
    private static MarbleRamps smallBoard() {
        MarbleRamps x = Boards.laid(2, 1);
        x.put(0, 0, 3);
        x.putCounter(0, 1, 3);
        x.drop(0);
        x.drop(0);
        x.drop(0);
        x.emptyBins();
        x.drop(1);
        x.emptyBins();
        x.setHopper(0, 0, 99);
        x.setHopper(1, 1, 7);
        return x;
    }

    private static MarbleRamps lostBoard() {
        MarbleRamps x = Boards.laid(2, 1);
        x.put(0, 0, 3);
        x.put(0, 1, 2);
        x.drop(1);
        x.drop(0);
        x.drop(0);
        x.emptyBins();
        return x;
    }

    private static BigInteger unwrapped(int[] numbers) {
        BigInteger d = BigInteger.valueOf(2239);
        for (int number : numbers) {
            d = d.multiply(BigInteger.valueOf(31)).add(BigInteger.valueOf(number));
        }
        return d;
    }

    private static void digest() {
        Checks.due("digest() of a new object", new MarbleRamps().digest(), unwrapped(NEW_BOARD).longValue());
        Checks.due("digest() of a small board", smallBoard().digest(), unwrapped(SMALL_BOARD).longValue());
        Checks.due("digest() of a board whose marbles are lost", lostBoard().digest(), unwrapped(LOST_BOARD).longValue());
    }

    private static void digestWraps() {
        for (int[] numbers : new int[][] {NEW_BOARD, SMALL_BOARD, LOST_BOARD}) {
            Checks.due("more than 64 bits", unwrapped(numbers).bitLength() > 64, true);
        }
        BigInteger around = BigInteger.ONE.shiftLeft(64);
        BigInteger rest = unwrapped(NEW_BOARD).mod(around);
        BigInteger signed = rest.testBit(63) ? rest.subtract(around) : rest;
        Checks.due("digest() of a new object", BigInteger.valueOf(new MarbleRamps().digest()), signed);
        boolean negative = false;
        boolean large = false;
        MarbleRamps x = Boards.full();
        for (int time = 0; time < 40; time++) {
            long d = x.digest();
            negative |= d < 0;
            large |= d > Integer.MAX_VALUE;
            x.drop(time % 9);
        }
        Checks.due("some digest() is negative", negative, true);
        Checks.due("some digest() is more than 32 bits", large, true);
    }

    private static void digestCounts1Or0() {
        MarbleRamps x = smallBoard();
        long toTheRight = x.digest();
        Checks.due("digest() with leadsRight(0, 0)", toTheRight, unwrapped(SMALL_BOARD).longValue());
        x.turn(0, 0);
        int[] toTheLeft = SMALL_BOARD.clone();
        // What else depends on where it leads: both runs, the number of its row, and where a marble would land.
        toTheLeft[7] = 1;
        toTheLeft[10] = 2;
        toTheLeft[11] = 0;
        toTheLeft[13] = 0;
        toTheLeft[19] = -1;
        Checks.due("digest() without it", x.digest(), unwrapped(toTheLeft).longValue());
    }
}
