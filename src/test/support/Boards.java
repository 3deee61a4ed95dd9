import java.util.ArrayList;
import java.util.List;

/** Boards to begin with, and numbers that are outside of them. */
final class Boards {
    /** Far outside of every range; times 2, 5 or 9 columns some wrap around to the number of a place that there is. */
    static final int[] FAR = {Integer.MIN_VALUE, Integer.MAX_VALUE, 1 << 30, -(1 << 30), 858993460, 477218589, 256};

    private Boards() {
    }

    static MarbleRamps laid(int columns, int rows) {
        MarbleRamps x = new MarbleRamps();
        x.lay(columns, rows);
        return x;
    }

    /** Three toggles, which send four marbles of the column 2 to the bins 0, 2, 2 and 4. */
    static MarbleRamps tree() {
        MarbleRamps x = new MarbleRamps();
        x.put(0, 2, 3);
        x.put(1, 1, 3);
        x.put(1, 3, 3);
        return x;
    }

    /** A board of 5 columns and 4 rows on which nothing is as at first. */
    static MarbleRamps busy() {
        MarbleRamps x = new MarbleRamps();
        x.put(0, 0, 3);
        x.put(0, 2, 3);
        x.turn(0, 2);
        x.putCounter(1, 1, 3);
        x.put(2, 2, 4);
        x.putCounter(2, 4, 5);
        x.put(3, 0, 1);
        x.setHopper(0, 2, 12);
        x.setHopper(1, 3, 8);
        for (int column = 0; column < 5; column++) {
            x.drop(column);
        }
        return x;
    }

    /** The largest board, full of toggles to the right, counters that counted, and marbles in each bin. */
    static MarbleRamps full() {
        MarbleRamps x = laid(9, 8);
        for (int column = 0; column < 9; column++) {
            x.drop(column);
        }
        for (int row = 0; row < 8; row++) {
            for (int column = 0; column < 9; column++) {
                fill(x, row, column);
            }
        }
        x.drop(0);
        x.drop(8);
        return x;
    }

    private static void fill(MarbleRamps x, int row, int column) {
        if ((row + column) % 2 == 0) {
            x.put(row, column, 3);
            x.turn(row, column);
        } else {
            x.putCounter(row, column, 2 + (row + column) % 8);
        }
    }

    /** 0 to 4 by put, 5 by putCounter. Answers the part before. */
    static int putAny(MarbleRamps x, int row, int column, int part) {
        return part == 5 ? x.putCounter(row, column, 2) : x.put(row, column, part);
    }

    /** Two columns between whose hoppers marbles go back and forth, without a loss and without a middle. */
    static MarbleRamps backAndForth(int inHopper0, int inHopper1) {
        MarbleRamps x = laid(2, 1);
        x.put(0, 0, 2);
        x.put(0, 1, 1);
        x.setHopper(0, 0, inHopper0);
        x.setHopper(1, 1, inHopper1);
        return x;
    }

    /** One of each sort, made anew at each call; the last one was larger once. */
    static List<MarbleRamps> several() {
        List<MarbleRamps> boards = new ArrayList<>(List.of(new MarbleRamps(), busy(), laid(2, 1), full()));
        MarbleRamps smaller = full();
        smaller.lay(2, 1);
        boards.add(smaller);
        return boards;
    }

    /** Just below, just above and far outside of least to most. */
    static List<Integer> outside(int least, int most) {
        List<Integer> numbers = new ArrayList<>(List.of(least - 1, least - 2, most + 1, most + 2));
        for (int far : FAR) {
            if (far < least || far > most) {
                numbers.add(far);
            }
        }
        return numbers;
    }

    static List<int[]> placesOutside(int columns, int rows) {
        List<int[]> places = new ArrayList<>();
        for (int row : outside(0, rows - 1)) {
            places.add(new int[] {row, 0});
            places.add(new int[] {row, columns - 1});
            places.add(new int[] {row, -1});
            places.add(new int[] {row, columns});
        }
        for (int column : outside(0, columns - 1)) {
            places.add(new int[] {0, column});
            places.add(new int[] {rows - 1, column});
        }
        return places;
    }
}
