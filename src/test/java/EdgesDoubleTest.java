/** The section Terms at its edges: letters of double height. */
public final class EdgesDoubleTest {
    private static final String OWN = "xxxxxxxxxxxxxxxxxxxx";

    private EdgesDoubleTest() {
    }

    public static void main(String[] args) {
        upperHalvesInRowsOneToSix();
        upperHalfWhereItIsOn();
        noHalfInRowZero();
        noHalfInRowSeven();
        notInARowThatIsNotItsOwn();
        anyColumnTakesTheRowBelow();
        noColumnLeavesTheRowBelow();
        lowerHalves();
        lowerHalfOfEverythingSeen();
        lowerHalfOfWhatIsHidden();
        spacesBesideLowerHalves();
        spacesHaveNoFlashAndNoConceal();
        spacesAreNoBlocks();
        rollingRowIsNotDouble();
        Check.finish();
    }

    /** Page 100: in one row a letter, the mark for double, a letter; the row below has its own letters. */
    private static PageReceiver doubleIn(int row, int... letters) {
        return Sender.receiving(Sender.row(1, row, letters), Sender.row(1, row + 1, OWN));
    }

    private static void upperHalvesInRowsOneToSix() {
        Check.sentence("DOUBLE counts in rows 1 to 6 alone");
        for (int row = 1; row <= 6; row++) {
            PageReceiver x = doubleIn(row, 'a', 13, 'b');
            Cells.letters("upper", x, row, 0, 'a', 32, 'b', 32);
            Cells.sums("upper", x, row, 0, 0, 0, 4, 4);
            Cells.letters("lower", x, row + 1, 0, 32, 32, 'b', 32);
            Cells.sums("lower", x, row + 1, 0, 0, 0, 8, 8);
            Cells.due("to the end", x, row, 19, 32, 4);
            Cells.due("to the end of the lower", x, row + 1, 19, 32, 8);
            Cells.due("two rows below", x, (row + 2) % 8, 8, 32, 0);
        }
    }

    private static void upperHalfWhereItIsOn() {
        Check.sentence("where it is on, the upper half is seen.");
        PageReceiver x = doubleIn(3, 'a', 13, 'b', 13, 23, '5', 12, 'c', 13, 12, 'd');
        Cells.letters("where it is on", x, 3, 0, 'a', 32, 'b', 32, 32, '5', 32, 'c', 32, 32, 'd');
        Cells.sums("where it is on", x, 3, 0, 0, 0, 4, 4, 4, 5, 0, 1, 0, 0, 1);
    }

    private static void noHalfInRowZero() {
        Check.sentence("(in rows 0 and 7 its marks do all that is said, also to the held letter, but no half is seen, "
            + "as if it were off)");
        PageReceiver x = new PageReceiver(1);
        Sender.send(x, Sender.header(1, 0x00, 0, 0, 0, 0, "\u0017\u001e!\r\u001b5\f"), Sender.row(1, 1, OWN));
        Sender.send(x, Sender.end(1));
        Cells.letters("row 0", x, 0, 8, 32, 32, '!', '!', 32, '5', 32);
        Cells.sums("row 0", x, 0, 8, 0, 1, 1, 1, 1, 1, 1);
        for (int column = 0; column < 20; column++) {
            Cells.due("row 1 is its own", x, 1, column, 'x', 0);
        }
    }

    private static void noHalfInRowSeven() {
        Check.sentence("but no half is seen, as if it were off)");
        PageReceiver x = Sender.showing(7, 23, 30, '!', 13, 27, '5', 12);
        Cells.letters("row 7", x, 7, 0, 32, 32, '!', '!', 32, '5', 32);
        Cells.sums("row 7", x, 7, 0, 0, 1, 1, 1, 1, 1, 1);
    }

    /** Row 2 below a double row 1 is not its own: row 3 is its own, whatever row 2 has. */
    private static void notInARowThatIsNotItsOwn() {
        Check.sentence("and not in a row that is not seen as its own");
        for (int first = 1; first <= 4; first++) {
            PageReceiver x = Sender.receiving(Sender.row(1, first, 'a', 13, 'b'), Sender.row(1, first + 1, 13, 'c'),
                Sender.row(1, first + 2, 'd', 'e', 'f'), Sender.row(1, first + 3, 13, 'g'));
            Cells.letters("its own", x, first, 0, 'a', 32, 'b');
            Cells.letters("not its own", x, first + 1, 0, 32, 32, 'b');
            Cells.sums("not its own", x, first + 1, 0, 0, 0, 8);
            Cells.letters("its own again", x, first + 2, 0, 'd', 'e', 'f');
            Cells.sums("its own again", x, first + 2, 0, 0, 0, 0);
            Cells.sums("double again", x, first + 3, 0, 0, first < 4 ? 4 : 0);
        }
    }

    private static int[] marked(int double13, int off12) {
        int[] letters = new int[20];
        java.util.Arrays.fill(letters, 'a');
        letters[double13] = 13;
        if (off12 < 20) {
            letters[off12] = 12;
        }
        return letters;
    }

    private static void anyColumnTakesTheRowBelow() {
        Check.sentence("If it is on at any column of a row, the row below it is not seen as its own");
        for (int column = 1; column < 20; column++) {
            PageReceiver x = doubleIn(3, marked(column - 1, column + 1));
            for (int seen = 0; seen < 20; seen++) {
                Check.due("on at " + column + ", above " + seen, x.look(3, seen, 3), seen == column ? 4 : 0);
                Check.due("on at " + column + ", letter " + seen, x.look(4, seen, 0), seen == column ? 'a' : 32);
                Check.due("on at " + column + ", sum " + seen, x.look(4, seen, 3), seen == column ? 8 : 0);
            }
        }
    }

    private static void noColumnLeavesTheRowBelow() {
        Check.sentence("If it is on at any column of a row");
        int[][] rows = {marked(19, 20), marked(3, 4), marked(18, 19), {12, 'a', 12}, {'a'}};
        for (int[] row : rows) {
            PageReceiver x = doubleIn(3, row);
            for (int column = 0; column < 20; column++) {
                Check.due("above " + column, x.look(3, column, 3), 0);
                Cells.due("its own", x, 4, column, 'x', 0);
            }
        }
    }

    private static void lowerHalves() {
        Check.sentence("each column has the lower half of what is above, where that is double");
        PageReceiver x = doubleIn(2, 1, 29, 3, 'a', 13, 'b', 5, 'c', 12, 'd');
        Cells.due("upper", x, 2, 5, 'b', 3, 1, 4);
        Cells.due("lower", x, 3, 5, 'b', 3, 1, 8);
        Cells.due("a mark", x, 3, 6, 32, 3, 1, 8);
        Cells.due("another colour", x, 3, 7, 'c', 5, 1, 8);
        Cells.due("no half", x, 3, 8, 32, 5, 1, 0);
    }

    private static void lowerHalfOfEverythingSeen() {
        Check.sentence("the lower half of what is above");
        PageReceiver x = new PageReceiver(1);
        Sender.send(x, Sender.header(1, 0x00, 0, 0, 0, 3, ""));
        Sender.send(x, Sender.row(1, 5, 23, 26, 13, '5', 30, 'A', '@', 27, 11, 8, '7', '!', 9));
        Sender.send(x, Sender.row(1, 6, OWN), Sender.overlays(1, Sender.triplet(45, 4, 0), Sender.triplet(11, 20, 3),
            Sender.triplet(46, 4, 0), Sender.triplet(3, 20, 3), Sender.triplet(0, 20, 3)), Sender.end(1));
        Cells.letters("upper", x, 5, 2, 32, '5', '5', 'A', 562, '5', '5', '5', '7', 1283, '7');
        Cells.sums("upper", x, 5, 2, 0, 7, 7, 4, 4, 7, 7, 71, 87, 84, 71);
        Cells.letters("lower", x, 6, 2, 32, '5', '5', 'A', 562, '5', '5', '5', '7', 1283, '7');
        Cells.sums("lower", x, 6, 2, 0, 11, 11, 8, 8, 11, 11, 75, 91, 88, 75);
        Cells.due("an overlay of the row itself", x, 6, 0, 32, 0);
    }

    private static void lowerHalfOfWhatIsHidden() {
        Check.sentence("the lower half of what is above, where that is double");
        PageReceiver x = doubleIn(2, 13, 24, 'a', 7, 8, 'b');
        Cells.letters("light", x, 3, 1, 32, 32, 32, 32, 'b');
        Cells.sums("light", x, 3, 1, 40, 40, 40, 8, 24);
        x.key(15);
        x.tick();
        Cells.letters("revealed and dark", x, 3, 1, 32, 'a', 32, 32, 32);
        Cells.sums("revealed and dark", x, 3, 1, 40, 40, 40, 8, 24);
    }

    private static void spacesBesideLowerHalves() {
        Check.sentence("otherwise a space (no block) with the colour, the ground and the box there");
        PageReceiver x = doubleIn(2, 'a', 2, 29, 11, 'b', 13, 12, 4, 13, 'c', 12, 10, 'd');
        Cells.due("at first", x, 3, 0, 32, 0);
        Cells.due("the mark of a colour", x, 3, 1, 32, 7, 0, 0);
        Cells.due("a ground at once", x, 3, 2, 32, 2, 2, 0);
        Cells.due("the mark of the box", x, 3, 3, 32, 2, 2, 0);
        Cells.due("a letter in the box", x, 3, 4, 32, 2, 2, 64);
        Cells.due("the mark of double", x, 3, 5, 32, 2, 2, 64);
        Cells.due("a lower half in the box", x, 3, 9, 'c', 4, 2, 72);
        Cells.due("the box is left after its mark", x, 3, 11, 32, 4, 2, 64);
        Cells.due("without the box", x, 3, 12, 32, 4, 2, 0);
    }

    private static void spacesHaveNoFlashAndNoConceal() {
        Check.sentence("without flash and conceal.");
        PageReceiver x = doubleIn(2, 8, 'a', 24, 'b', 11, 'c', 13, 'd');
        Cells.sums("above", x, 2, 0, 0, 16, 48, 48, 48, 112, 112, 116);
        Cells.sums("below", x, 3, 0, 0, 0, 0, 0, 0, 64, 64, 120);
        x.key(15);
        Cells.letters("revealed", x, 3, 0, 32, 32, 32, 32, 32, 32, 32, 'd');
    }

    private static void spacesAreNoBlocks() {
        Check.sentence("otherwise a space (no block)");
        PageReceiver x = doubleIn(2, 23, 26, 30, '5', 13, '7');
        Cells.sums("above", x, 2, 2, 1, 3, 3, 7);
        Cells.letters("below", x, 3, 2, 32, 32, 32, '7');
        Cells.sums("below", x, 3, 2, 0, 0, 0, 11);
    }

    /** Row 0 never takes the row below it, also without a page. */
    private static void rollingRowIsNotDouble() {
        Check.sentence("counts in rows 1 to 6 alone (in rows 0 and 7");
        PageReceiver x = new PageReceiver(1);
        Sender.send(x, Sender.header(5, 0x00, 0, 0, 0, 0, "\r\u0001a\u001d"));
        Cells.due("row 0", x, 0, 10, 'a', 1, 0, 0);
        Cells.due("row 1", x, 1, 10, 32, 0);
        Cells.due("row 1 has no ground of row 0", x, 1, 12, 32, 0);
    }
}
