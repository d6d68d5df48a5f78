/** The section Terms at its edges: every mark, from three states, in its own cell and in the two behind it. */
public final class EdgesMarksTest {
    /** What a row begins with; the mark stands behind it, then comes 7, then the mark 27, which does nothing. */
    private static final int[] NOTHING_ON = {};
    private static final int[] MOSAIC_ON = {23, '5'};
    /** Green on red, all states on, the block 5 held. */
    private static final int[] ALL_ON = {17, 29, 18, 26, 8, 11, 13, 30, 24, '5'};

    private EdgesMarksTest() {
    }

    public static void main(String[] args) {
        atOnceOrAfter();
        colours();
        mosaicColours();
        flash();
        box();
        doubles();
        conceal();
        separated();
        grounds();
        hold();
        others();
        Check.finish();
    }

    /** Due are letter, colour, ground and sum of the mark's cell, of that of the 7, and of that of the mark 27. */
    private static void seen(int[] before, int mark, int... due) {
        int at = before.length;
        int[] letters = java.util.Arrays.copyOf(before, at + 3);
        letters[at] = mark;
        letters[at + 1] = '7';
        letters[at + 2] = 27;
        PageReceiver x = Sender.showing(1, letters);
        if (before == ALL_ON) {
            x.key(15);
        }
        String name = "mark " + mark + " behind " + at;
        for (int i = 0; i < 3; i++) {
            Cells.due(name, x, 1, at + i, due[4 * i], due[4 * i + 1], due[4 * i + 2], due[4 * i + 3]);
        }
    }

    private static void nothingOn(int mark, int... due) {
        seen(NOTHING_ON, mark, due);
    }

    private static void mosaicOn(int mark, int... due) {
        seen(MOSAIC_ON, mark, due);
    }

    private static void allOn(int mark, int... due) {
        seen(ALL_ON, mark, due);
    }

    private static void nothingChanges(int mark) {
        nothingOn(mark, 32, 7, 0, 0, '7', 7, 0, 0, 32, 7, 0, 0);
    }

    private static void mosaicStays(int mark) {
        mosaicOn(mark, 32, 7, 0, 0, '7', 7, 0, 1, 32, 7, 0, 0);
    }

    private static void allStays(int mark) {
        allOn(mark, '5', 2, 1, 119, '7', 2, 1, 119, '7', 2, 1, 119);
    }

    private static void atOnceOrAfter() {
        Check.sentence("A mark does what it does AT once, before it is seen itself, or AFTER it");
        PageReceiver x = Sender.showing(1, 8, 11, 1, 'a', 9, 29, 24, 28, 10, 'b');
        Cells.due("8 after", x, 1, 0, 32, 7, 0, 0);
        Cells.due("11 after", x, 1, 1, 32, 7, 0, 16);
        Cells.due("1 after", x, 1, 2, 32, 7, 0, 80);
        Cells.due("behind them", x, 1, 3, 'a', 1, 0, 80);
        Cells.due("9 at once", x, 1, 4, 32, 1, 0, 64);
        Cells.due("29 at once", x, 1, 5, 32, 1, 1, 64);
        Cells.due("24 at once", x, 1, 6, 32, 1, 1, 96);
        Cells.due("28 at once", x, 1, 7, 32, 1, 0, 96);
        Cells.due("10 after", x, 1, 8, 32, 1, 0, 96);
        Cells.due("behind all", x, 1, 9, 32, 1, 0, 32);
    }

    private static void colours() {
        Check.sentence("0 to 7 after: the colour is that, mosaic and conceal off.");
        for (int c = 0; c < 8; c++) {
            nothingOn(c, 32, 7, 0, 0, '7', c, 0, 0, 32, c, 0, 0);
            mosaicOn(c, 32, 7, 0, 0, '7', c, 0, 0, 32, c, 0, 0);
            allOn(c, '5', 2, 1, 119, '7', c, 1, 84, 32, c, 1, 84);
        }
    }

    private static void mosaicColours() {
        Check.sentence("16 to 23 after: the colour is 16 less, mosaic on, conceal off.");
        for (int c = 0; c < 8; c++) {
            nothingOn(16 + c, 32, 7, 0, 0, '7', c, 0, 1, 32, c, 0, 0);
            mosaicOn(16 + c, 32, 7, 0, 0, '7', c, 0, 1, 32, c, 0, 0);
            allOn(16 + c, '5', 2, 1, 119, '7', c, 1, 87, '7', c, 1, 87);
        }
    }

    private static void flash() {
        Check.sentence("8 after: flash on; 9 at: flash off.");
        nothingOn(8, 32, 7, 0, 0, '7', 7, 0, 16, 32, 7, 0, 16);
        mosaicOn(8, 32, 7, 0, 0, '7', 7, 0, 17, 32, 7, 0, 16);
        allStays(8);
        nothingChanges(9);
        mosaicStays(9);
        allOn(9, '5', 2, 1, 103, '7', 2, 1, 103, '7', 2, 1, 103);
    }

    private static void box() {
        Check.sentence("10 after: box off; 11 after: box on.");
        nothingChanges(10);
        mosaicStays(10);
        allOn(10, '5', 2, 1, 119, '7', 2, 1, 55, '7', 2, 1, 55);
        nothingOn(11, 32, 7, 0, 0, '7', 7, 0, 64, 32, 7, 0, 64);
        mosaicOn(11, 32, 7, 0, 0, '7', 7, 0, 65, 32, 7, 0, 64);
        allStays(11);
    }

    private static void doubles() {
        Check.sentence("12 at: double off; 13 after: double on.");
        nothingChanges(12);
        mosaicStays(12);
        allOn(12, 32, 2, 1, 113, '7', 2, 1, 115, '7', 2, 1, 115);
        nothingOn(13, 32, 7, 0, 0, '7', 7, 0, 4, 32, 7, 0, 4);
        mosaicOn(13, 32, 7, 0, 0, '7', 7, 0, 5, 32, 7, 0, 4);
        allStays(13);
    }

    private static void conceal() {
        Check.sentence("24 at: conceal on.");
        nothingOn(24, 32, 7, 0, 32, 32, 7, 0, 32, 32, 7, 0, 32);
        mosaicOn(24, 32, 7, 0, 32, 32, 7, 0, 32, 32, 7, 0, 32);
        allStays(24);
    }

    private static void separated() {
        Check.sentence("25 at: separated off; 26 at: separated on.");
        nothingChanges(25);
        mosaicStays(25);
        allOn(25, '5', 2, 1, 119, '7', 2, 1, 117, '7', 2, 1, 117);
        nothingChanges(26);
        mosaicOn(26, 32, 7, 0, 0, '7', 7, 0, 3, 32, 7, 0, 0);
        allStays(26);
    }

    private static void grounds() {
        Check.sentence("28 at: the ground is 0; 29 at: the ground is the colour.");
        nothingChanges(28);
        mosaicStays(28);
        allOn(28, '5', 2, 0, 119, '7', 2, 0, 119, '7', 2, 0, 119);
        nothingOn(29, 32, 7, 7, 0, '7', 7, 7, 0, 32, 7, 7, 0);
        mosaicOn(29, 32, 7, 7, 0, '7', 7, 7, 1, 32, 7, 7, 0);
        allOn(29, '5', 2, 2, 119, '7', 2, 2, 119, '7', 2, 2, 119);
    }

    private static void hold() {
        Check.sentence("30 at: hold on; 31 after: hold off.");
        nothingChanges(30);
        mosaicOn(30, '5', 7, 0, 1, '7', 7, 0, 1, '7', 7, 0, 1);
        allStays(30);
        nothingChanges(31);
        mosaicStays(31);
        allOn(31, '5', 2, 1, 119, '7', 2, 1, 119, 32, 2, 1, 116);
    }

    private static void others() {
        Check.sentence("Others do nothing.");
        for (int mark : new int[] {14, 15, 27}) {
            nothingChanges(mark);
            mosaicStays(mark);
            allStays(mark);
        }
    }
}
