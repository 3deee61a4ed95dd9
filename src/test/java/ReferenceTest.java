import java.util.ArrayList;
import java.util.List;

/**
 * All promises together: long runs of calls, wrong ones among them, against a slow machine that is written otherwise:
 * its parts are objects, it is copied whole for each question, and a marble's way is a list of columns.
 */
public final class ReferenceTest {
    private static final int OBJECTS = 400;
    private static final int CALLS = 512;
    private static final int KINDS = 28;

    /** The numbers that the runs are made of: always the same ones. */
    private static final class Numbers {
        private long seed;

        Numbers(long seed) {
            this.seed = seed * 2862933555777941757L + 3037000493L;
        }

        int below(int bound) {
            seed = seed * 6364136223846793005L + 1442695040888963407L;
            return (int) ((seed >>> 33) % bound);
        }

        /** Mostly 0 to bound less 1, now and then one beside it or far away. */
        int near(int bound) {
            int choice = below(60);
            if (choice == 0) {
                return new int[] {Integer.MIN_VALUE, Integer.MAX_VALUE, -1 << 28, 1 << 28, 7777}[below(5)];
            }
            return choice < 4 ? below(2) * (bound + 1) - 1 : below(bound);
        }
    }

    private static final class Part {
        final int kind;
        final int period;
        boolean right;
        int count;

        Part(int kind, int period) {
            this.kind = kind;
            this.period = period;
        }

        Part copy() {
            Part other = new Part(kind, period);
            other.right = right;
            other.count = count;
            return other;
        }

        int pass(int came) {
            switch (kind) {
                case 0: return 0;
                case 1: return -1;
                case 2: return 1;
                case 3:
                    right = !right;
                    return right ? -1 : 1;
                case 4: return came;
                default:
                    count = (count + 1) % period;
                    return count == 0 ? 1 : -1;
            }
        }
    }

    private static final class Slow {
        List<List<Part>> board = new ArrayList<>();
        int[] bins;
        int lost;
        int[] above = new int[2];
        int[] marbles = new int[2];

        Slow(int columns, int rows) {
            bins = new int[columns];
            above[1] = columns - 1;
            for (int row = 0; row < rows; row++) {
                List<Part> parts = new ArrayList<>();
                for (int column = 0; column < columns; column++) {
                    parts.add(new Part(0, 0));
                }
                board.add(parts);
            }
        }

        Slow copy() {
            Slow other = new Slow(bins.length, 0);
            for (List<Part> row : board) {
                List<Part> parts = new ArrayList<>();
                for (Part part : row) {
                    parts.add(part.copy());
                }
                other.board.add(parts);
            }
            other.bins = bins.clone();
            other.lost = lost;
            other.above = above.clone();
            other.marbles = marbles.clone();
            return other;
        }

        /** The columns in which it is, row by row and at last the bin; the last one is -1 if it is lost. */
        List<Integer> fall(int column) {
            List<Integer> way = new ArrayList<>();
            way.add(column);
            int came = 0;
            for (List<Part> row : board) {
                int at = way.get(way.size() - 1);
                came = row.get(at).pass(came);
                if (at + came < 0 || at + came >= bins.length) {
                    way.add(-1);
                    lost++;
                    return way;
                }
                way.add(at + came);
            }
            bins[way.get(way.size() - 1)]++;
            return way;
        }

        int lands(int column) {
            List<Integer> way = fall(column);
            return way.get(way.size() - 1);
        }

        int run(int hopper, int most) {
            if (most == 0 || marbles[hopper] == 0) {
                return 0;
            }
            marbles[hopper]--;
            int bin = lands(above[hopper]);
            double middle = (bins.length - 1) / 2.0;
            if (bin == -1 || bin == middle) {
                return 1;
            }
            return 1 + run(bin < middle ? 0 : 1, most - 1);
        }

        String states() {
            StringBuilder text = new StringBuilder();
            for (List<Part> row : board) {
                for (Part part : row) {
                    text.append(part.right).append(part.count).append(' ');
                }
            }
            return text.toString();
        }

        int turns(int column) {
            int turned = 0;
            List<Integer> way = copy().fall(column);
            for (int row = 0; row < board.size() && way.get(row) >= 0; row++) {
                turned += board.get(row).get(way.get(row)).kind == 3 ? 1 : 0;
            }
            return turned;
        }

        int asBefore(int column) {
            Slow other = copy();
            for (int fallen = 1; fallen <= 60; fallen++) {
                other.fall(column);
                if (other.states().equals(states())) {
                    return fallen;
                }
            }
            return -1;
        }

        int best() {
            int best = 0;
            for (int column = bins.length - 1; column >= 0; column--) {
                best = turns(column) >= turns(best) ? column : best;
            }
            return best;
        }

        int toggles() {
            int toggles = 0;
            for (List<Part> row : board) {
                for (Part part : row) {
                    toggles += part.kind == 3 ? 1 : 0;
                }
            }
            return toggles;
        }

        int number(int row) {
            String bits = "0";
            for (Part part : board.get(row)) {
                bits = part.kind == 3 ? (part.right ? "1" : "0") + bits : bits;
            }
            return Integer.parseInt(bits, 2) / 2;
        }

        int inBins() {
            int sum = 0;
            for (int bin : bins) {
                sum += bin;
            }
            return sum;
        }

        long digest() {
            List<Integer> x = new ArrayList<>(List.of(bins.length, board.size(), lost, toggles(), best()));
            for (int hopper = 0; hopper < 2; hopper++) {
                x.addAll(List.of(marbles[hopper], above[hopper], copy().run(hopper, 99)));
            }
            for (int row = 0; row < board.size(); row++) {
                x.add(number(row));
                for (Part part : board.get(row)) {
                    x.addAll(List.of(part.kind, part.right ? 1 : 0, part.count));
                }
            }
            for (int column = 0; column < bins.length; column++) {
                x.addAll(List.of(bins[column], copy().lands(column), turns(column), asBefore(column)));
            }
            long d = 2239;
            for (int number : x) {
                d = d * 31 + number;
            }
            return d;
        }

        boolean noRow(int row) {
            return row < 0 || row >= board.size();
        }

        boolean noColumn(int column) {
            return column < 0 || column >= bins.length;
        }
    }

    private static Slow slow;
    private static MarbleRamps fast;

    public static void main(String[] args) {
        for (int object = 0; object < OBJECTS; object++) {
            runOne(object);
        }
        Checks.end();
    }

    private static void runOne(int object) {
        Numbers numbers = new Numbers(object);
        slow = new Slow(5, 4);
        fast = new MarbleRamps();
        int calls = 0;
        if (object % 5 != 0) {
            calls = fill(numbers);
        }
        for (; calls < CALLS - 1; calls++) {
            int kind = numbers.below(KINDS);
            // Another board is seldom laid, so that marbles fall on full ones.
            if (kind == 0 && numbers.below(8) != 0) {
                kind = 6;
            }
            one("object " + object + ", call " + calls + ": ", kind, numbers);
        }
        Checks.due("object " + object + ", digest()", fast.digest(), slow.digest());
    }

    private static int fill(Numbers numbers) {
        int columns = 2 + numbers.below(8);
        int rows = 1 + numbers.below(8);
        fast.lay(columns, rows);
        slow = new Slow(columns, rows);
        int calls = 1;
        for (int row = 0; row < rows; row++) {
            for (int column = 0; column < columns; column++) {
                int kind = numbers.below(6);
                int period = 2 + numbers.below(8);
                int got = kind == 5 ? fast.putCounter(row, column, period) : fast.put(row, column, kind);
                Checks.due("filling (" + row + ", " + column + ")", got, 0);
                slow.board.get(row).set(column, new Part(kind, period));
                calls++;
            }
        }
        return calls;
    }

    private static void one(String ahead, int kind, Numbers numbers) {
        int row = numbers.near(slow.board.size());
        int column = numbers.near(slow.bins.length);
        int hopper = numbers.near(2);
        if (kind == 0) {
            lay(ahead, numbers.near(10), numbers.near(9));
        } else if (kind <= 3) {
            place(ahead, kind, row, column, kind == 1 ? numbers.near(5) : 2 + numbers.near(8));
        } else if (kind <= 5 || kind == 8) {
            fillOrRun(ahead, kind, hopper, column, numbers.near(100));
        } else if (kind <= 13) {
            ask(ahead, kind, row, column);
        } else if (kind <= 18) {
            tell(ahead, kind, row, hopper);
        } else {
            foresee(ahead, kind, row, column, kind == 22 ? 1 + numbers.near(60) : hopper);
        }
    }

    private static void lay(String ahead, int columns, int rows) {
        String call = ahead + "lay(" + columns + ", " + rows + ")";
        if (columns < 2 || columns > 9 || rows < 1 || rows > 8) {
            Checks.dueThrow(call, IllegalArgumentException.class, () -> fast.lay(columns, rows));
            return;
        }
        int[] marbles = slow.marbles;
        slow = new Slow(columns, rows);
        slow.marbles = marbles;
        Checks.due(call, fast.lay(columns, rows), columns * rows);
    }

    private static Object made(String call, int kind, int row, int column, int number) {
        return Checks.outcome(() -> {
            switch (kind) {
                case 1: return fast.put(row, column, number);
                case 2: return fast.putCounter(row, column, number);
                default: return fast.turn(row, column);
            }
        });
    }

    private static void place(String ahead, int kind, int row, int column, int number) {
        String call = ahead + (kind == 1 ? "put" : kind == 2 ? "putCounter" : "turn")
            + "(" + row + ", " + column + ", " + number + ")";
        Object got = made(call, kind, row, column, number);
        if (slow.noRow(row) || slow.noColumn(column)) {
            Checks.due(call, got, "throws IndexOutOfBoundsException");
            return;
        }
        Part part = slow.board.get(row).get(column);
        if (kind == 3 && part.kind != 3) {
            Checks.due(call, got, "throws IllegalStateException");
        } else if (kind == 3) {
            part.right = !part.right;
            Checks.due(call, got, part.right);
        } else if (kind == 1 ? number < 0 || number > 4 : number < 2 || number > 9) {
            Checks.due(call, got, "throws IllegalArgumentException");
        } else {
            slow.board.get(row).set(column, kind == 1 ? new Part(number, 0) : new Part(5, number));
            Checks.due(call, got, part.kind);
        }
    }

    private static void fillOrRun(String ahead, int kind, int hopper, int column, int number) {
        if (kind == 4) {
            String call = ahead + "setHopper(" + hopper + ", " + column + ", " + number + ")";
            Object got = Checks.outcome(() -> fast.setHopper(hopper, column, number));
            if (hopper < 0 || hopper > 1 || slow.noColumn(column)) {
                Checks.due(call, got, "throws IndexOutOfBoundsException");
            } else if (number < 0 || number > 99) {
                Checks.due(call, got, "throws IllegalArgumentException");
            } else {
                Checks.due(call, got, slow.marbles[hopper]);
                slow.marbles[hopper] = number;
                slow.above[hopper] = column;
            }
        } else {
            String call = ahead + "run(" + hopper + ", " + number + ")";
            Object got = Checks.outcome(() -> fast.run(hopper, number));
            if (hopper < 0 || hopper > 1) {
                Checks.due(call, got, "throws IndexOutOfBoundsException");
            } else if (number < 1 || number > 99) {
                Checks.due(call, got, "throws IllegalArgumentException");
            } else {
                Checks.due(call, got, slow.run(hopper, number));
            }
        }
    }

    private static void ask(String ahead, int kind, int row, int column) {
        boolean none = slow.noColumn(column);
        Object no = "throws IndexOutOfBoundsException";
        boolean noPlace = none || slow.noRow(row);
        Part part = noPlace ? new Part(0, 0) : slow.board.get(row).get(column);
        String at = "(" + row + ", " + column + ")";
        switch (kind) {
            case 6:
            case 7:
                Checks.due(ahead + "drop(" + column + ")", Checks.outcome(() -> fast.drop(column)),
                    none ? no : slow.lands(column));
                break;
            case 9:
                Checks.due(ahead + "emptyBins()", fast.emptyBins(), slow.inBins());
                slow.bins = new int[slow.bins.length];
                break;
            case 10:
                Checks.due(ahead + "partAt" + at, Checks.outcome(() -> fast.partAt(row, column)),
                    noPlace ? no : part.kind);
                break;
            case 11:
                Checks.due(ahead + "leadsRight" + at, Checks.outcome(() -> fast.leadsRight(row, column)),
                    noPlace ? no : part.right);
                break;
            case 12:
                Checks.due(ahead + "countAt" + at, Checks.outcome(() -> fast.countAt(row, column)),
                    noPlace ? no : part.count);
                break;
            default:
                Checks.due(ahead + "binOf(" + column + ")", Checks.outcome(() -> fast.binOf(column)),
                    none ? no : slow.bins[column]);
        }
    }

    private static void tell(String ahead, int kind, int row, int hopper) {
        boolean none = hopper < 0 || hopper > 1;
        Object no = "throws IndexOutOfBoundsException";
        switch (kind) {
            case 14:
                Checks.due(ahead + "columns()", fast.columns(), slow.bins.length);
                Checks.due(ahead + "rows()", fast.rows(), slow.board.size());
                break;
            case 15:
                Checks.due(ahead + "lost()", fast.lost(), slow.lost);
                Checks.due(ahead + "toggles()", fast.toggles(), slow.toggles());
                break;
            case 16:
                Checks.due(ahead + "marblesIn(" + hopper + ")", Checks.outcome(() -> fast.marblesIn(hopper)),
                    none ? no : slow.marbles[hopper]);
                break;
            case 17:
                Checks.due(ahead + "columnOf(" + hopper + ")", Checks.outcome(() -> fast.columnOf(hopper)),
                    none ? no : slow.above[hopper]);
                break;
            default:
                Checks.due(ahead + "numberIn(" + row + ")", Checks.outcome(() -> fast.numberIn(row)),
                    slow.noRow(row) ? no : slow.number(row));
        }
    }

    private static void foresee(String ahead, int kind, int row, int column, int number) {
        boolean none = slow.noColumn(column);
        Object no = "throws IndexOutOfBoundsException";
        switch (kind) {
            case 19:
                Checks.due(ahead + "wouldLand(" + column + ")", Checks.outcome(() -> fast.wouldLand(column)),
                    none ? no : slow.copy().lands(column));
                break;
            case 20:
                Checks.due(ahead + "wouldBeIn(" + column + ", " + row + ")",
                    Checks.outcome(() -> fast.wouldBeIn(column, row)), none || slow.noRow(row) ? no : beIn(column, row));
                break;
            case 21:
                Checks.due(ahead + "wouldTurn(" + column + ")", Checks.outcome(() -> fast.wouldTurn(column)),
                    none ? no : slow.turns(column));
                break;
            case 22:
                Checks.due(ahead + "lastLands(" + column + ", " + number + ")",
                    Checks.outcome(() -> fast.lastLands(column, number)), none ? no : last(column, number));
                break;
            case 23:
                Checks.due(ahead + "asBeforeIn(" + column + ")", Checks.outcome(() -> fast.asBeforeIn(column)),
                    none ? no : slow.asBefore(column));
                break;
            case 24:
                Checks.due(ahead + "wouldRun(" + number + ")", Checks.outcome(() -> fast.wouldRun(number)),
                    number < 0 || number > 1 ? no : slow.copy().run(number, 99));
                break;
            case 25:
                Checks.due(ahead + "bestColumn()", fast.bestColumn(), slow.best());
                break;
            case 26:
                Checks.due(ahead + "meanInBins()", fast.meanInBins(), slow.inBins() / (double) slow.bins.length);
                break;
            default:
                Checks.due(ahead + "digest()", fast.digest(), slow.digest());
        }
    }

    private static Object beIn(int column, int row) {
        List<Integer> way = slow.copy().fall(column);
        return row < way.size() ? way.get(row) : (Object) (-1);
    }

    private static Object last(int column, int marbles) {
        if (marbles < 1 || marbles > 60) {
            return "throws IllegalArgumentException";
        }
        Slow other = slow.copy();
        for (int fallen = 1; fallen < marbles; fallen++) {
            other.fall(column);
        }
        return other.lands(column);
    }
}
