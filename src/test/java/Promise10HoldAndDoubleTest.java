/** Promise 10: the held letter, and letters of double height. */
public final class Promise10HoldAndDoubleTest {
    private Promise10HoldAndDoubleTest() {
    }

    public static void main(String[] args) {
        holdAtOnceAndOffAfter();
        holdNeedsMosaic();
        heldLetterIsNoted();
        lettersAmongBlocksAreNotHeld();
        mosaicBeginsAnew();
        doubleBeginsAnew();
        doubleInARow();
        doubleAtNoColumn();
        doubleAtTheLastColumn();
        lowerHalves();
        lowerHalvesOfWhatIsHidden();
        rowsBelow();
        rowsZeroAndSeven();
        rowSixAndSeven();
        everyRowBelowItsOwn();
        Check.finish();
    }

    private static void holdAtOnceAndOffAfter() {
        PageReceiver x = Sender.showing(1, 17, '5', 26, 30, 26, 31, 26, '7', 30);
        Cells.letters("hold", x, 1, 0, 32, '5', 32, '5', '5', '5', 32, '7', '7');
        Cells.sums("hold", x, 1, 0, 0, 1, 0, 1, 1, 1, 0, 3, 3);
        PageReceiver y = Sender.showing(1, 17, 30, 26, '5');
        Cells.letters("at first 32", y, 1, 0, 32, 32, 32, '5');
        Cells.sums("a block of nothing, not separated", y, 1, 0, 0, 1, 1, 3);
    }

    private static void holdNeedsMosaic() {
        PageReceiver x = Sender.showing(1, 30, 'a', 30, 17, '5', 2, 2, 18, 30);
        Cells.letters("hold", x, 1, 0, 32, 'a', 32, 32, '5', '5', 32, 32, 32);
        Cells.sums("hold", x, 1, 0, 0, 0, 0, 0, 1, 1, 0, 0, 1);
    }

    private static void heldLetterIsNoted() {
        PageReceiver x = Sender.showing(1, 17, 30, 26, '5', 25, 25, '7', 26, 26, '!');
        Cells.letters("held", x, 1, 3, '5', '5', '5', '7', '7', '7', '!');
        Cells.sums("separated when noted", x, 1, 3, 3, 3, 3, 1, 1, 1, 3);
        PageReceiver y = Sender.showing(1, 17, 30, '5', 32, 26, 127, 18);
        Cells.letters("also a space and 127", y, 1, 2, '5', 32, 32, 127, 127);
        Cells.sums("they are blocks", y, 1, 2, 1, 1, 1, 3, 3);
    }

    private static void lettersAmongBlocksAreNotHeld() {
        PageReceiver x = Sender.showing(1, 17, 30, '5', 'A', 18, '_', 19, '`', 20);
        Cells.letters("held", x, 1, 2, '5', 'A', '5', '_', '5', '`', '`');
        Cells.sums("held", x, 1, 2, 1, 0, 1, 0, 1, 1, 1);
        Cells.due("another colour", x, 1, 6, '5', 2, 0, 1);
    }

    private static void mosaicBeginsAnew() {
        PageReceiver x = Sender.showing(1, 17, 30, '5', 18, 1, 17, 30, '7', 17, 17);
        Cells.letters("held", x, 1, 2, '5', '5', '5', 32, 32, '7', '7', '7');
        Cells.sums("held", x, 1, 2, 1, 1, 1, 0, 1, 1, 1, 1);
    }

    private static void doubleBeginsAnew() {
        PageReceiver x = Sender.showing(1, 17, 30, 26, '5', 12, 13, 13, '7', 13, 12, 12, '!', 12);
        Cells.letters("held", x, 1, 3, '5', '5', '5', 32, '7', '7', 32, 32, '!', '!');
        Cells.sums("held", x, 1, 3, 3, 3, 3, 5, 7, 7, 1, 1, 3, 3);
        for (int row : new int[] {0, 7}) {
            PageReceiver y = new PageReceiver(1);
            String text = "\u0011\u001e5\r\r7\f\f";
            Sender.send(y, Sender.header(1, 0x00, 0, 0, 0, 0, text), Sender.row(1, 7, "        " + text), Sender.end(1));
            Cells.letters("held", y, row, 10, '5', '5', 32, '7', 32, 32);
            Cells.sums("no half", y, row, 10, 1, 1, 1, 1, 1, 1);
        }
    }

    /** Page 100 with a row, and one below it that is all x. */
    private static PageReceiver withRowBelow(int row, int... letters) {
        PageReceiver x = new PageReceiver(1);
        Sender.send(x, Sender.header(1, 0x00), Sender.row(1, row, letters));
        Sender.send(x, Sender.row(1, row + 1, "xxxxxxxxxxxxxxxxxxxx"), Sender.end(1));
        return x;
    }

    private static void doubleInARow() {
        PageReceiver x = withRowBelow(2, 'a', 13, 'b', 1, 'c', 12, 'd', 13, 13, 'e');
        Cells.letters("upper", x, 2, 0, 'a', 32, 'b', 32, 'c', 32, 'd', 32, 32, 'e', 32);
        Cells.sums("upper", x, 2, 0, 0, 0, 4, 4, 4, 0, 0, 0, 4, 4, 4);
        Cells.letters("lower", x, 3, 0, 32, 32, 'b', 32, 'c', 32, 32, 32, 32, 'e', 32);
        Cells.sums("lower", x, 3, 0, 0, 0, 8, 8, 8, 0, 0, 0, 8, 8, 8);
        Cells.due("its colour", x, 3, 4, 'c', 1, 0, 8);
        Cells.due("colour of a space", x, 3, 6, 32, 1, 0, 0);
        Cells.due("to the end", x, 3, 19, 32, 1, 0, 8);
        Cells.due("rows above are their own", x, 1, 2, 32, 0);
    }

    private static void doubleAtNoColumn() {
        PageReceiver x = withRowBelow(2, 'a', 13, 12, 'b', 13, 12);
        Cells.sums("no half", x, 2, 0, 0, 0, 0, 0, 0, 0, 0);
        Cells.letters("its own", x, 3, 0, 'x', 'x', 'x', 'x', 'x', 'x');
        PageReceiver y = withRowBelow(2, 'a', 12, 'b');
        Cells.letters("off alone", y, 3, 0, 'x', 'x', 'x');
    }

    private static void doubleAtTheLastColumn() {
        int[] letters = new int[20];
        java.util.Arrays.fill(letters, 'a');
        letters[19] = 13;
        PageReceiver x = withRowBelow(2, letters);
        Cells.letters("its own", x, 3, 18, 'x', 'x');
        letters[18] = 13;
        PageReceiver y = withRowBelow(2, letters);
        Cells.sums("the last one", y, 2, 18, 0, 4);
        Cells.letters("not its own", y, 3, 0, 32, 32);
        Cells.sums("the last one below", y, 3, 18, 0, 8);
        letters[18] = 'a';
        letters[17] = 13;
        letters[19] = 12;
        PageReceiver z = withRowBelow(2, letters);
        Cells.sums("the last but one below", z, 3, 17, 0, 8, 0);
    }

    private static void lowerHalves() {
        PageReceiver x = withRowBelow(3, 17, 26, 11, 8, 29, '5', 13, '7', 'A', 30, 12, '!');
        Cells.due("a block above", x, 3, 5, '5', 1, 1, 64 + 16 + 3);
        Cells.due("a space with colour, ground and box", x, 4, 5, 32, 1, 1, 64);
        Cells.due("upper block", x, 3, 7, '7', 1, 1, 64 + 16 + 4 + 3);
        Cells.due("lower block", x, 4, 7, '7', 1, 1, 64 + 16 + 8 + 3);
        Cells.due("lower letter", x, 4, 8, 'A', 1, 1, 64 + 16 + 8);
        Cells.due("lower held letter", x, 4, 9, '7', 1, 1, 64 + 16 + 8 + 3);
        Cells.due("behind it", x, 4, 10, 32, 1, 1, 64);
        PageReceiver y = new PageReceiver(1);
        Sender.send(y, Sender.header(1, 0x00, 0, 0, 0, 5, ""), Sender.row(1, 3, 13, '#', 'a'));
        Sender.send(y, Sender.overlays(1, Sender.triplet(43, 4, 0), Sender.triplet(2, 20, 3),
            Sender.triplet(44, 4, 0), Sender.triplet(1, 20, 4), Sender.triplet(3, 20, 4)), Sender.end(1));
        Cells.letters("a set's letter and an overlay", y, 3, 0, 32, 592, 1283, 32);
        Cells.letters("their lower halves", y, 4, 0, 32, 592, 1283, 32);
    }

    private static void lowerHalvesOfWhatIsHidden() {
        PageReceiver x = withRowBelow(3, 24, 'a', 13, 'b', 7, 8, 'c', 12, 'd');
        Cells.due("concealed", x, 3, 1, 32, 32);
        Cells.due("below it", x, 4, 1, 32, 0);
        Cells.due("concealed upper", x, 3, 3, 32, 32 + 4);
        Cells.due("concealed lower", x, 4, 3, 32, 32 + 8);
        x.key(15);
        Cells.due("revealed lower", x, 4, 3, 'b', 32 + 8);
        Cells.due("light lower", x, 4, 6, 'c', 16 + 8);
        x.tick();
        Cells.due("dark lower", x, 4, 6, 32, 16 + 8);
        Cells.due("no flash below", x, 4, 8, 32, 0);
    }

    private static void rowsBelow() {
        PageReceiver x = new PageReceiver(1);
        Sender.send(x, Sender.header(1, 0x00));
        for (int row = 1; row <= 7; row++) {
            Sender.send(x, Sender.row(1, row, 'a' + row, 13, 'A' + row));
        }
        Sender.send(x, Sender.end(1));
        for (int row = 1; row <= 6; row++) {
            int own = row - (row + 1) % 2;
            boolean upper = row % 2 == 1;
            Cells.letters("rows " + own, x, row, 0, upper ? 'a' + own : 32, 32, 'A' + own);
            Cells.sums("rows " + own, x, row, 0, 0, 0, upper ? 4 : 8);
        }
        Cells.letters("row 7 is its own", x, 7, 0, 'a' + 7, 32, 'A' + 7);
        Cells.sums("row 7 has no half", x, 7, 0, 0, 0, 0);
    }

    private static void rowsZeroAndSeven() {
        PageReceiver x = new PageReceiver(1);
        Sender.send(x, Sender.header(1, 0x00, 0, 0, 0, 0, "\rab"), Sender.row(1, 1, "xxxxxxxxxxxxxx"));
        Sender.send(x, Sender.row(1, 7, 13, 'z'), Sender.end(1));
        Cells.due("row 0", x, 0, 9, 'a', 0);
        Cells.due("row 1", x, 1, 9, 'x', 0);
        Cells.due("row 7", x, 7, 1, 'z', 0);
    }

    private static void rowSixAndSeven() {
        PageReceiver x = withRowBelow(6, 'a', 13, 'b');
        Cells.letters("row 6", x, 6, 0, 'a', 32, 'b');
        Cells.letters("row 7", x, 7, 0, 32, 32, 'b');
        Cells.sums("row 7", x, 7, 0, 0, 0, 8);
    }

    private static void everyRowBelowItsOwn() {
        for (int row = 1; row <= 6; row++) {
            PageReceiver x = withRowBelow(row, 'a', 13, 'b');
            for (int seen = 1; seen <= 7; seen++) {
                int due = seen == row ? 4 : seen == row + 1 ? 8 : 0;
                Cells.sums("double in " + row, x, seen, 2, due);
                Cells.letters("double in " + row, x, seen, 2, due == 0 ? 32 : 'b');
            }
        }
    }
}
