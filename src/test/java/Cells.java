/** Asks what is seen in a cell, all at once. */
final class Cells {
    static final int BLOCK = 1;
    static final int SEPARATED = 2;
    static final int UPPER = 4;
    static final int LOWER = 8;
    static final int FLASH = 16;
    static final int CONCEAL = 32;
    static final int BOX = 64;

    private Cells() {
    }

    static void due(String name, PageReceiver x, int row, int column, int letter, int colour, int ground, int sum) {
        String cell = name + " (" + row + ", " + column + ")";
        Check.due(cell + " letter", x.look(row, column, 0), letter);
        Check.due(cell + " colour", x.look(row, column, 1), colour);
        Check.due(cell + " ground", x.look(row, column, 2), ground);
        Check.due(cell + " sum", x.look(row, column, 3), sum);
    }

    /** A cell that is white on black. */
    static void due(String name, PageReceiver x, int row, int column, int letter, int sum) {
        due(name, x, row, column, letter, 7, 0, sum);
    }

    /** The letters of a row from a column on. */
    static void letters(String name, PageReceiver x, int row, int column, int... letters) {
        for (int i = 0; i < letters.length; i++) {
            Check.due(name + " (" + row + ", " + (column + i) + ")", x.look(row, column + i, 0), letters[i]);
        }
    }

    /** The sums of a row from a column on. */
    static void sums(String name, PageReceiver x, int row, int column, int... sums) {
        for (int i = 0; i < sums.length; i++) {
            Check.due(name + " sum (" + row + ", " + (column + i) + ")", x.look(row, column + i, 3), sums[i]);
        }
    }
}
