/** Promises 7 to 9: marbles that fall by hand and out of hoppers, and bins that are emptied. */
public final class MarblesTest {
    private static final Class<?> NO_INDEX = IndexOutOfBoundsException.class;
    private static final Class<?> NO_ARGUMENT = IllegalArgumentException.class;
    private static final int[] FAR = {-1, Integer.MIN_VALUE, Integer.MAX_VALUE, 1 << 30, -(1 << 30), 100};

    public static void main(String[] args) {
        dropStraight();
        dropOverRamps();
        dropOverToggles();
        dropThroughCrossovers();
        dropOverCounters();
        dropLoses();
        dropRefuses();
        runEnds();
        runGoesFromHopperToHopper();
        runEndsAtTheMiddle();
        runEndsWithALostMarble();
        runEndsAsTold();
        runRefuses();
        emptyBins();
        Checks.end();
    }

    private static void dropStraight() {
        MarbleRamps x = new MarbleRamps();
        for (int column = 0; column < 5; column++) {
            Checks.due("7: drop(" + column + ")", x.drop(column), column);
            Checks.due("7: binOf(" + column + ")", x.binOf(column), 1);
        }
        Checks.due("7: drop(2) again", x.drop(2), 2);
        Checks.due("7: binOf(2) again", x.binOf(2), 2);
        x.setHopper(0, 2, 3);
        x.drop(2);
        Checks.due("7: marblesIn(0) behind drop", x.marblesIn(0), 3);
    }

    private static void dropOverRamps() {
        MarbleRamps x = new MarbleRamps();
        x.lay(9, 8);
        for (int step = 0; step < 4; step++) {
            x.put(2 * step, 4 - step, 1);
            x.put(2 * step, 5 + step, 2);
        }
        Checks.due("7: drop(4) over ramps to the left", x.drop(4), 0);
        Checks.due("7: drop(5) over ramps to the right", x.drop(5), -1);
        x.put(6, 8, 0);
        Checks.due("7: drop(5) over three ramps to the right", x.drop(5), 8);
    }

    private static void dropOverToggles() {
        MarbleRamps x = new MarbleRamps();
        x.put(1, 2, 3);
        Checks.due("7: drop(2) over a toggle", x.drop(2), 1);
        Checks.due("7: leadsRight(1, 2)", x.leadsRight(1, 2), true);
        Checks.due("7: drop(2) over it again", x.drop(2), 3);
        Checks.due("7: leadsRight(1, 2) again", x.leadsRight(1, 2), false);
        Checks.due("7: drop(1) beside it", x.drop(1), 1);
        Checks.due("7: leadsRight(1, 2) beside", x.leadsRight(1, 2), false);
    }

    private static void dropThroughCrossovers() {
        MarbleRamps x = new MarbleRamps();
        x.lay(7, 4);
        x.put(1, 3, 4);
        x.put(0, 2, 2);
        x.put(0, 4, 1);
        Checks.due("7: drop(3) straight through a crossover", x.drop(3), 3);
        Checks.due("7: drop(2) to the right through it", x.drop(2), 4);
        Checks.due("7: drop(4) to the left through it", x.drop(4), 2);
        x.put(2, 4, 4);
        x.put(2, 2, 4);
        x.put(3, 1, 4);
        Checks.due("7: drop(2) through two crossovers", x.drop(2), 5);
        Checks.due("7: drop(4) through three crossovers", x.drop(4), 0);
        x.lay(7, 4);
        x.put(0, 2, 2);
        x.put(2, 3, 4);
        Checks.due("7: drop(2) comes straight behind nothing", x.drop(2), 3);
        x.put(0, 3, 4);
        x.put(1, 3, 4);
        Checks.due("7: drop(3) straight through three crossovers", x.drop(3), 3);
        x.lay(7, 4);
        x.put(0, 3, 3);
        x.putCounter(1, 2, 2);
        x.put(1, 4, 4);
        x.put(2, 1, 4);
        x.put(2, 3, 4);
        Checks.due("7: drop(3) left by toggle, left by counter, crossover", x.drop(3), 0);
        Checks.due("7: drop(3) right by toggle, crossover", x.drop(3), 5);
        Checks.due("7: drop(3) left by toggle, right by counter, crossover", x.drop(3), 4);
    }

    private static void dropOverCounters() {
        MarbleRamps x = new MarbleRamps();
        x.putCounter(0, 2, 3);
        int[] ends = {1, 1, 3, 1, 1, 3};
        int[] counts = {1, 2, 0, 1, 2, 0};
        for (int marble = 0; marble < ends.length; marble++) {
            Checks.due("7: drop(2) over a counter, marble " + marble, x.drop(2), ends[marble]);
            Checks.due("7: countAt(0, 2), marble " + marble, x.countAt(0, 2), counts[marble]);
        }
    }

    private static void dropLoses() {
        MarbleRamps x = new MarbleRamps();
        x.put(0, 0, 1);
        x.put(3, 4, 2);
        x.put(1, 0, 3);
        Checks.due("7: drop(0) lost from the first row", x.drop(0), -1);
        Checks.due("7: leadsRight(1, 0) below a lost marble", x.leadsRight(1, 0), false);
        Checks.due("7: drop(4) lost from the last row", x.drop(4), -1);
        Checks.due("7: lost()", x.lost(), 2);
        Checks.due("7: meanInBins() of lost marbles", x.meanInBins(), 0.0);
        x.put(0, 0, 0);
        Checks.due("7: drop(0) lost by a toggle", x.drop(0), -1);
        Checks.due("7: leadsRight(1, 0) is turned all the same", x.leadsRight(1, 0), true);
        x.lay(3, 2);
        x.put(0, 1, 1);
        x.put(1, 0, 4);
        Checks.due("7: drop(1) lost through a crossover", x.drop(1), -1);
        Checks.due("7: lost() since lay", x.lost(), 1);
    }

    private static void dropRefuses() {
        MarbleRamps x = new MarbleRamps();
        x.drop(3);
        Checks.refuses(x, "7: drop(5)", NO_INDEX, () -> x.drop(5));
        for (int far : FAR) {
            Checks.refuses(x, "7: drop(" + far + ")", NO_INDEX, () -> x.drop(far));
        }
    }

    private static void runEnds() {
        MarbleRamps x = new MarbleRamps();
        Checks.due("8: run(0, 9) of no marbles", x.run(0, 9), 0);
        Checks.due("8: run(1, 9) of no marbles", x.run(1, 9), 0);
        x.setHopper(0, 1, 6);
        Checks.due("8: run(0, 99) until the hopper has none", x.run(0, 99), 6);
        Checks.due("8: marblesIn(0)", x.marblesIn(0), 0);
        Checks.due("8: binOf(1)", x.binOf(1), 6);
        x.setHopper(1, 1, 2);
        x.setHopper(0, 3, 1);
        Checks.due("8: run(1, 99) ends at the empty other hopper", x.run(1, 99), 3);
        Checks.due("8: marblesIn(1) of it", x.marblesIn(1), 0);
        x.setHopper(1, 1, 2);
        Checks.due("8: run(1, 99) with an empty hopper 0", x.run(1, 99), 1);
        Checks.due("8: marblesIn(1) with an empty hopper 0", x.marblesIn(1), 1);
    }

    private static void runGoesFromHopperToHopper() {
        MarbleRamps x = new MarbleRamps();
        x.put(0, 2, 3);
        x.setHopper(0, 2, 10);
        x.setHopper(1, 2, 10);
        Checks.due("8: run(1, 7) by turns", x.run(1, 7), 7);
        Checks.due("8: marblesIn(1) by turns", x.marblesIn(1), 6);
        Checks.due("8: marblesIn(0) by turns", x.marblesIn(0), 7);
        Checks.due("8: binOf(1) by turns", x.binOf(1), 4);
        Checks.due("8: binOf(3) by turns", x.binOf(3), 3);
        Checks.due("8: leadsRight(0, 2) by turns", x.leadsRight(0, 2), true);
        x.lay(4, 1);
        x.setHopper(0, 1, 5);
        x.setHopper(1, 2, 5);
        Checks.due("8: run(0, 99) of 4 columns, bin 1 is the hopper 0's", x.run(0, 99), 5);
        Checks.due("8: run(1, 99) of 4 columns, bin 2 is the hopper 1's", x.run(1, 99), 5);
        Checks.due("8: marblesIn(1) of 4 columns", x.marblesIn(1), 0);
    }

    private static void runEndsAtTheMiddle() {
        for (int columns = 3; columns <= 9; columns += 2) {
            MarbleRamps x = new MarbleRamps();
            x.lay(columns, 2);
            x.setHopper(0, columns / 2, 9);
            Checks.due("8: run(0, 9) into the middle of " + columns, x.run(0, 9), 1);
            Checks.due("8: binOf the middle of " + columns, x.binOf(columns / 2), 1);
            x.setHopper(1, columns / 2 - 1, 9);
            Checks.due("8: run(1, 9) to the left, then the middle of " + columns, x.run(1, 9), 2);
            Checks.due("8: marblesIn(1) of " + columns, x.marblesIn(1), 8);
            Checks.due("8: marblesIn(0) of " + columns, x.marblesIn(0), 7);
        }
        for (int columns = 2; columns <= 8; columns += 2) {
            MarbleRamps x = new MarbleRamps();
            x.lay(columns, 2);
            x.setHopper(0, columns / 2, 1);
            x.setHopper(1, columns - 1, 9);
            Checks.due("8: run(0, 99) without a middle of " + columns, x.run(0, 99), 10);
        }
    }

    private static void runEndsWithALostMarble() {
        MarbleRamps x = new MarbleRamps();
        x.putCounter(3, 0, 2);
        x.setHopper(0, 1, 3);
        x.put(0, 1, 3);
        Checks.due("8: run(0, 9) until one is lost", x.run(0, 9), 1);
        Checks.due("8: lost()", x.lost(), 1);
        Checks.due("8: marblesIn(0) behind a lost one", x.marblesIn(0), 2);
        Checks.due("8: run(0, 9) to the middle", x.run(0, 9), 1);
        Checks.due("8: run(0, 9) over the full counter", x.run(0, 9), 1);
        Checks.due("8: binOf(1) by the full counter", x.binOf(1), 1);
        Checks.due("8: binOf(2) by the toggle", x.binOf(2), 1);
    }

    private static void runEndsAsTold() {
        MarbleRamps x = new MarbleRamps();
        x.setHopper(0, 0, 99);
        Checks.due("8: run(0, 1)", x.run(0, 1), 1);
        Checks.due("8: marblesIn(0) behind 1", x.marblesIn(0), 98);
        Checks.due("8: run(0, 40)", x.run(0, 40), 40);
        Checks.due("8: binOf(0)", x.binOf(0), 41);
        x.lay(2, 1);
        x.put(0, 0, 3);
        x.put(0, 1, 3);
        x.turn(0, 0);
        x.setHopper(0, 0, 99);
        x.setHopper(1, 1, 99);
        Checks.due("8: run(0, 99) back and forth", x.run(0, 99), 3);
        x.lay(2, 1);
        x.put(0, 0, 2);
        x.put(0, 1, 1);
        x.setHopper(0, 0, 99);
        x.setHopper(1, 1, 99);
        Checks.due("8: run(0, 99) of 198 marbles", x.run(0, 99), 99);
        Checks.due("8: marblesIn(0) of 198", x.marblesIn(0), 49);
        Checks.due("8: marblesIn(1) of 198", x.marblesIn(1), 50);
    }

    private static void runRefuses() {
        MarbleRamps x = new MarbleRamps();
        x.setHopper(0, 0, 9);
        x.setHopper(1, 4, 9);
        Checks.refuses(x, "8: run(2, 1)", NO_INDEX, () -> x.run(2, 1));
        Checks.refuses(x, "8: run(2, 0)", NO_INDEX, () -> x.run(2, 0));
        Checks.refuses(x, "8: run(-1, 100)", NO_INDEX, () -> x.run(-1, 100));
        Checks.refuses(x, "8: run(0, 0)", NO_ARGUMENT, () -> x.run(0, 0));
        for (int far : FAR) {
            Checks.refuses(x, "8: run(" + far + ", 1)", NO_INDEX, () -> x.run(far, 1));
            Checks.refuses(x, "8: run(1, " + far + ")", NO_ARGUMENT, () -> x.run(1, far));
        }
    }

    private static void emptyBins() {
        MarbleRamps x = new MarbleRamps();
        Checks.due("9: emptyBins() of none", x.emptyBins(), 0);
        x.put(0, 0, 1);
        x.drop(0);
        x.drop(1);
        x.drop(4);
        x.drop(4);
        Checks.due("9: emptyBins()", x.emptyBins(), 3);
        for (int column = 0; column < 5; column++) {
            Checks.due("9: binOf(" + column + ")", x.binOf(column), 0);
        }
        Checks.due("9: lost() stays", x.lost(), 1);
        Checks.due("9: partAt(0, 0) stays", x.partAt(0, 0), 1);
        Checks.due("9: emptyBins() again", x.emptyBins(), 0);
    }
}
