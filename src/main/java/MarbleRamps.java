import java.util.Arrays;

/** A computer of marbles. */
public final class MarbleRamps {
    private static final int FEWEST_COLUMNS = 2;
    private static final int MOST_COLUMNS = 9;
    private static final int FIRST_COLUMNS = 5;
    private static final int FEWEST_ROWS = 1;
    private static final int MOST_ROWS = 8;
    private static final int FIRST_ROWS = 4;

    private static final int NOTHING = 0;
    private static final int RAMP_LEFT = 1;
    private static final int RAMP_RIGHT = 2;
    private static final int TOGGLE = 3;
    private static final int CROSSOVER = 4;
    private static final int COUNTER = 5;

    private static final int NO_PERIOD = 0;
    private static final int FEWEST_IN_PERIOD = 2;
    private static final int MOST_IN_PERIOD = 9;

    // A way is what it adds to the number of the column.
    private static final int LEFT = -1;
    private static final int STRAIGHT = 0;
    private static final int RIGHT = 1;

    // A toggle goes as a counter of the period 2: it leads to the right when 1 is counted.
    private static final int PERIOD_OF_TOGGLE = 2;
    private static final int LEADS_LEFT = 0;
    private static final int LEADS_RIGHT = 1;

    private static final int HOPPERS = 2;
    private static final int LEFT_HOPPER = 0;
    private static final int RIGHT_HOPPER = 1;
    private static final int NO_HOPPER = -1;
    private static final int MOST_IN_HOPPER = 99;

    private static final int MOST_IN_RUN = 99;
    private static final int MOST_FORESEEN = 60;

    private static final int LOST = -1;
    private static final int NEVER = -1;

    private static final long DIGEST_START = 2239;
    private static final long DIGEST_FACTOR = 31;

    private final Machine now = new Machine();
    // Made once and used by every question, so that a question makes no objects.
    private final Machine trial = new Machine();

    public MarbleRamps() {
    }

    // ---- the board

    public int lay(int columns, int rows) throws IllegalArgumentException {
        needWithin(columns, FEWEST_COLUMNS, MOST_COLUMNS);
        needWithin(rows, FEWEST_ROWS, MOST_ROWS);
        now.layBoard(columns, rows);
        return columns * rows;
    }

    public int put(int row, int column, int part) throws IndexOutOfBoundsException, IllegalArgumentException {
        needPlace(row, column);
        needWithin(part, NOTHING, CROSSOVER);
        return now.replacePart(row, column, part, part == TOGGLE ? PERIOD_OF_TOGGLE : NO_PERIOD);
    }

    public int putCounter(int row, int column, int period)
            throws IndexOutOfBoundsException, IllegalArgumentException {
        needPlace(row, column);
        needWithin(period, FEWEST_IN_PERIOD, MOST_IN_PERIOD);
        return now.replacePart(row, column, COUNTER, period);
    }

    public boolean turn(int row, int column) throws IndexOutOfBoundsException, IllegalStateException {
        needPlace(row, column);
        int place = now.placeOf(row, column);
        if (now.partIn(place) != TOGGLE) {
            throw new IllegalStateException("there is no toggle");
        }
        now.turnOver(place);
        return now.isRightToggle(place);
    }

    public int setHopper(int hopper, int column, int marbles)
            throws IndexOutOfBoundsException, IllegalArgumentException {
        needHopper(hopper);
        needColumn(column);
        needWithin(marbles, 0, MOST_IN_HOPPER);
        return now.fillHopper(hopper, column, marbles);
    }

    // ---- marbles

    public int drop(int column) throws IndexOutOfBoundsException {
        needColumn(column);
        return now.letFall(column);
    }

    public int run(int hopper, int most) throws IndexOutOfBoundsException, IllegalArgumentException {
        needHopper(hopper);
        needWithin(most, 1, MOST_IN_RUN);
        return now.runFrom(hopper, most);
    }

    public int emptyBins() {
        int marbles = now.marblesInBins();
        now.clearBins();
        return marbles;
    }

    // ---- what there is

    public int columns() {
        return now.columnCount;
    }

    public int rows() {
        return now.rowCount;
    }

    public int partAt(int row, int column) throws IndexOutOfBoundsException {
        needPlace(row, column);
        return now.partIn(now.placeOf(row, column));
    }

    public boolean leadsRight(int row, int column) throws IndexOutOfBoundsException {
        needPlace(row, column);
        return now.isRightToggle(now.placeOf(row, column));
    }

    public int countAt(int row, int column) throws IndexOutOfBoundsException {
        needPlace(row, column);
        return now.countedIn(now.placeOf(row, column));
    }

    public int binOf(int column) throws IndexOutOfBoundsException {
        needColumn(column);
        return cell(now.bins, column);
    }

    public int lost() {
        return now.lostCount;
    }

    public int marblesIn(int hopper) throws IndexOutOfBoundsException {
        needHopper(hopper);
        return cell(now.hopperMarbles, hopper);
    }

    public int columnOf(int hopper) throws IndexOutOfBoundsException {
        needHopper(hopper);
        return cell(now.hopperColumns, hopper);
    }

    public int toggles() {
        return now.countToggles();
    }

    public int numberIn(int row) throws IndexOutOfBoundsException {
        needRow(row);
        return now.numberToldBy(row);
    }

    // ---- what would be

    public int wouldLand(int column) throws IndexOutOfBoundsException {
        needColumn(column);
        trial.becomeLike(now);
        return trial.letFall(column);
    }

    public int wouldBeIn(int column, int row) throws IndexOutOfBoundsException {
        needColumn(column);
        needRow(row);
        trial.becomeLike(now);
        return trial.fallTo(column, row);
    }

    public int wouldTurn(int column) throws IndexOutOfBoundsException {
        needColumn(column);
        trial.becomeLike(now);
        trial.letFall(column);
        // A marble meets a toggle once at most, so what it turned over leads otherwise now.
        return trial.togglesUnlike(now);
    }

    public int lastLands(int column, int marbles) throws IndexOutOfBoundsException, IllegalArgumentException {
        needColumn(column);
        needWithin(marbles, 1, MOST_FORESEEN);
        trial.becomeLike(now);
        int end = LOST;
        for (int fallen = 0; fallen < marbles; fallen++) {
            end = trial.letFall(column);
        }
        return end;
    }

    public int asBeforeIn(int column) throws IndexOutOfBoundsException {
        needColumn(column);
        trial.becomeLike(now);
        for (int fallen = 1; fallen <= MOST_FORESEEN; fallen++) {
            trial.letFall(column);
            if (trial.hasStatesOf(now)) {
                return fallen;
            }
        }
        return NEVER;
    }

    public int wouldRun(int hopper) throws IndexOutOfBoundsException {
        needHopper(hopper);
        trial.becomeLike(now);
        return trial.runFrom(hopper, MOST_IN_RUN);
    }

    public int bestColumn() {
        int best = 0;
        int most = 0;
        for (int column = 0; column < columns(); column++) {
            int turned = wouldTurn(column);
            if (turned > most) {
                best = column;
                most = turned;
            }
        }
        return best;
    }

    public double meanInBins() {
        int bins = columns();
        return bins == 0 ? 0.0 : (double) now.marblesInBins() / (double) bins;
    }

    public long digest() {
        long d = DIGEST_START;
        d = d * DIGEST_FACTOR + columns();
        d = d * DIGEST_FACTOR + rows();
        d = d * DIGEST_FACTOR + lost();
        d = d * DIGEST_FACTOR + toggles();
        d = d * DIGEST_FACTOR + bestColumn();
        for (int hopper = 0; hopper < HOPPERS; hopper++) {
            d = d * DIGEST_FACTOR + marblesIn(hopper);
            d = d * DIGEST_FACTOR + columnOf(hopper);
            d = d * DIGEST_FACTOR + wouldRun(hopper);
        }
        for (int row = 0; row < rows(); row++) {
            d = d * DIGEST_FACTOR + numberIn(row);
            for (int column = 0; column < columns(); column++) {
                d = d * DIGEST_FACTOR + partAt(row, column);
                d = d * DIGEST_FACTOR + (leadsRight(row, column) ? 1 : 0);
                d = d * DIGEST_FACTOR + countAt(row, column);
            }
        }
        for (int column = 0; column < columns(); column++) {
            d = d * DIGEST_FACTOR + binOf(column);
            d = d * DIGEST_FACTOR + wouldLand(column);
            d = d * DIGEST_FACTOR + wouldTurn(column);
            d = d * DIGEST_FACTOR + asBeforeIn(column);
        }
        return d;
    }

    // ---- what a call needs

    private void needPlace(int row, int column) {
        needRow(row);
        needColumn(column);
    }

    private void needRow(int row) {
        if (!now.hasRow(row)) {
            throw new IndexOutOfBoundsException("there is no such row");
        }
    }

    private void needColumn(int column) {
        if (!now.hasColumn(column)) {
            throw new IndexOutOfBoundsException("there is no such column");
        }
    }

    private static void needHopper(int hopper) {
        if (hopper < 0 || hopper >= HOPPERS) {
            throw new IndexOutOfBoundsException("there is no such hopper");
        }
    }

    private static void needWithin(int value, int least, int most) {
        if (value < least || value > most) {
            throw new IllegalArgumentException("a number is too small or too large");
        }
    }

    // ---- cells: an array is read and written at an index here alone, where the index is tested

    private static int cell(int[] cells, int index) {
        return index >= 0 && index < cells.length ? cells[index] : 0;
    }

    private static void setCell(int[] cells, int index, int value) {
        if (index >= 0 && index < cells.length) {
            cells[index] = value;
        }
    }

    private static void copyCells(int[] from, int[] to) {
        for (int index = 0; index < from.length; index++) {
            setCell(to, index, from[index]);
        }
    }

    /** The board with its bins and hoppers: one is the real one, another one is there to try things on. */
    private static final class Machine {
        // As large as the largest board needs, so that laying another one makes no arrays.
        final int[] parts = new int[MOST_COLUMNS * MOST_ROWS];
        final int[] periods = new int[MOST_COLUMNS * MOST_ROWS];
        // Of a toggle, where it leads; of a counter, how many it counted; otherwise always 0.
        final int[] states = new int[MOST_COLUMNS * MOST_ROWS];
        final int[] bins = new int[MOST_COLUMNS];
        final int[] hopperColumns = new int[HOPPERS];
        final int[] hopperMarbles = new int[HOPPERS];
        int columnCount;
        int rowCount;
        int lostCount;

        Machine() {
            layBoard(FIRST_COLUMNS, FIRST_ROWS);
        }

        void layBoard(int columns, int rows) {
            columnCount = columns;
            rowCount = rows;
            lostCount = 0;
            Arrays.fill(parts, NOTHING);
            Arrays.fill(periods, NO_PERIOD);
            Arrays.fill(states, 0);
            clearBins();
            setCell(hopperColumns, LEFT_HOPPER, 0);
            setCell(hopperColumns, RIGHT_HOPPER, columns - 1);
        }

        void becomeLike(Machine other) {
            columnCount = other.columnCount;
            rowCount = other.rowCount;
            lostCount = other.lostCount;
            copyCells(other.parts, parts);
            copyCells(other.periods, periods);
            copyCells(other.states, states);
            copyCells(other.bins, bins);
            copyCells(other.hopperColumns, hopperColumns);
            copyCells(other.hopperMarbles, hopperMarbles);
        }

        // ---- places

        boolean hasRow(int row) {
            return row >= 0 && row < rowCount;
        }

        boolean hasColumn(int column) {
            return column >= 0 && column < columnCount;
        }

        int placeOf(int row, int column) {
            return row * columnCount + column;
        }

        int partIn(int place) {
            return cell(parts, place);
        }

        boolean isRightToggle(int place) {
            return partIn(place) == TOGGLE && cell(states, place) == LEADS_RIGHT;
        }

        int countedIn(int place) {
            return partIn(place) == COUNTER ? cell(states, place) : 0;
        }

        int replacePart(int row, int column, int part, int period) {
            int place = placeOf(row, column);
            int before = partIn(place);
            setCell(parts, place, part);
            setCell(periods, place, period);
            // A new toggle leads to the left and a new counter counted nothing: both are 0.
            setCell(states, place, 0);
            return before;
        }

        void turnOver(int place) {
            setCell(states, place, isRightToggle(place) ? LEADS_LEFT : LEADS_RIGHT);
        }

        int countToggles() {
            int toggles = 0;
            for (int part : parts) {
                if (part == TOGGLE) {
                    toggles++;
                }
            }
            return toggles;
        }

        int numberToldBy(int row) {
            int number = 0;
            int worth = 1;
            for (int column = 0; column < columnCount; column++) {
                int place = placeOf(row, column);
                if (partIn(place) == TOGGLE) {
                    number += isRightToggle(place) ? worth : 0;
                    worth *= 2;
                }
            }
            return number;
        }

        int togglesUnlike(Machine other) {
            int unlike = 0;
            for (int place = 0; place < parts.length; place++) {
                if (isRightToggle(place) != other.isRightToggle(place)) {
                    unlike++;
                }
            }
            return unlike;
        }

        boolean hasStatesOf(Machine other) {
            for (int place = 0; place < states.length; place++) {
                if (cell(states, place) != cell(other.states, place)) {
                    return false;
                }
            }
            return true;
        }

        // ---- falling

        int letFall(int column) {
            int end = fallTo(column, rowCount);
            if (end == LOST) {
                lostCount++;
            } else {
                setCell(bins, end, cell(bins, end) + 1);
            }
            return end;
        }

        /** The column of the row, or LOST; the row behind the last one is that of the bins. */
        int fallTo(int column, int row) {
            int at = column;
            int way = STRAIGHT;
            for (int above = 0; above < row; above++) {
                way = wayOut(placeOf(above, at), way);
                at += way;
                if (!hasColumn(at)) {
                    return LOST;
                }
            }
            return at;
        }

        int wayOut(int place, int wayIn) {
            switch (cell(parts, place)) {
                case RAMP_LEFT:
                    return LEFT;
                case RAMP_RIGHT:
                    return RIGHT;
                case CROSSOVER:
                    return wayIn;
                case TOGGLE:
                case COUNTER:
                    int counted = cell(states, place) + 1;
                    boolean full = counted >= cell(periods, place);
                    setCell(states, place, full ? 0 : counted);
                    return full ? RIGHT : LEFT;
                default:
                    return STRAIGHT;
            }
        }

        // ---- bins and hoppers

        int marblesInBins() {
            int marbles = 0;
            for (int bin : bins) {
                marbles += bin;
            }
            return marbles;
        }

        void clearBins() {
            Arrays.fill(bins, 0);
        }

        int fillHopper(int hopper, int column, int marbles) {
            int before = cell(hopperMarbles, hopper);
            setCell(hopperColumns, hopper, column);
            setCell(hopperMarbles, hopper, marbles);
            return before;
        }

        int runFrom(int hopper, int most) {
            int fallen = 0;
            int from = hopper;
            while (fallen < most && from != NO_HOPPER && cell(hopperMarbles, from) > 0) {
                fallen++;
                setCell(hopperMarbles, from, cell(hopperMarbles, from) - 1);
                from = hopperBehind(letFall(cell(hopperColumns, from)));
            }
            return fallen;
        }

        int hopperBehind(int bin) {
            int middle = columnCount - 1;
            if (bin == LOST || 2 * bin == middle) {
                return NO_HOPPER;
            }
            return 2 * bin < middle ? LEFT_HOPPER : RIGHT_HOPPER;
        }
    }
}
