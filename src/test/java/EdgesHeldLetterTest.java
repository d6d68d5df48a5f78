/** The section Terms at its edges: the held letter. */
public final class EdgesHeldLetterTest {
    private EdgesHeldLetterTest() {
    }

    public static void main(String[] args) {
        everyBlockIsHeld();
        otherLettersAreNotHeld();
        lettersWithoutMosaicAreNotHeld();
        lettersWithAnOverlayAreNotHeld();
        concealedLettersAreHeld();
        darkLettersAreHeld();
        notedWithTheLetter();
        separatedIsNoted();
        mosaicGetsAnotherValue();
        mosaicKeepsItsValue();
        doubleGetsAnotherValueAfter();
        doubleGetsAnotherValueAtOnce();
        doubleKeepsItsValue();
        notSeparatedAnyMore();
        heldWithoutHold();
        Check.finish();
    }

    private static void everyBlockIsHeld() {
        Check.sentence("The held letter becomes each letter from 32 on that is a block");
        for (int letter = 32; letter < 128; letter++) {
            PageReceiver x = Sender.showing(1, 23, 30, '!', letter, 27, 27);
            boolean block = letter <= 63 || letter >= 96;
            Cells.due("behind " + letter, x, 1, 4, block ? letter : '!', 1);
            Cells.due("and again", x, 1, 5, block ? letter : '!', 1);
        }
    }

    private static void otherLettersAreNotHeld() {
        Check.sentence("each letter from 32 on that is a block");
        for (int letter : new int[] {64, 65, 94, 95}) {
            Cells.due("behind " + letter, Sender.showing(1, 23, 30, letter, 27), 1, 3, 32, 1);
        }
        Cells.due("a mark seen as a block", Sender.showing(1, 23, 30, 26, '!', 25, 27), 1, 5, '!', 3);
    }

    private static void lettersWithoutMosaicAreNotHeld() {
        Check.sentence("that is a block and has no overlay");
        Cells.due("mosaic was off", Sender.showing(1, 30, '!', 23, 27), 1, 3, 32, 1);
    }

    private static void lettersWithAnOverlayAreNotHeld() {
        Check.sentence("and has no overlay");
        PageReceiver x = Sender.receiving(Sender.row(1, 1, 23, 30, '!', '5', 27, '7', 27),
            Sender.overlays(1, Sender.triplet(41, 4, 0), Sender.triplet(3, 15, 1), Sender.triplet(4, 15, 1)));
        Cells.letters("held", x, 1, 2, '!', 129, '!', '7', '7');
        Cells.sums("held", x, 1, 2, 1, 0, 1, 1, 1);
    }

    private static void concealedLettersAreHeld() {
        Check.sentence("(also when it is concealed or dark)");
        PageReceiver x = Sender.showing(1, 23, 30, '!', 24, 26, '5', 23, 27);
        Cells.letters("concealed", x, 1, 2, '!', 32, 32, 32, 32, '5');
        Cells.sums("concealed", x, 1, 2, 1, 32, 32, 32, 32, 3);
    }

    private static void darkLettersAreHeld() {
        Check.sentence("or dark)");
        PageReceiver x = Sender.showing(1, 23, 30, '!', 8, 26, '5', 27, 9);
        x.tick();
        Cells.letters("dark", x, 1, 2, '!', '!', 32, 32, 32, '5');
        Cells.sums("dark", x, 1, 2, 1, 1, 16, 16, 16, 3);
    }

    private static void notedWithTheLetter() {
        Check.sentence("noting whether it is separated");
        Cells.due("separated", Sender.showing(1, 23, 30, 26, '!', 25), 1, 4, '!', 3);
        Cells.due("not separated", Sender.showing(1, 23, 30, '!', 26), 1, 3, '!', 1);
    }

    private static void separatedIsNoted() {
        Check.sentence("A held letter is separated when that was noted, other blocks when separated is on.");
        PageReceiver x = Sender.showing(1, 23, 30, '!', 26, 27, '5', 25, 27, '7', 26, 27);
        Cells.letters("held", x, 1, 2, '!', '!', '!', '5', '5', '5', '7', '7', '7');
        Cells.sums("held", x, 1, 2, 1, 1, 1, 3, 3, 3, 1, 1, 1);
    }

    private static void mosaicGetsAnotherValue() {
        Check.sentence("it is 32, not separated, whenever mosaic or double gets another value");
        PageReceiver x = Sender.showing(1, 26, 23, 30, '!', 7, 23, 27, '5', 27);
        Cells.letters("held", x, 1, 3, '!', '!', 32, 32, '5', '5');
        Cells.sums("held", x, 1, 3, 3, 3, 0, 1, 3, 3);
    }

    private static void mosaicKeepsItsValue() {
        Check.sentence("whenever mosaic or double gets another value");
        for (int colour = 16; colour < 24; colour++) {
            Cells.due("mosaic on again", Sender.showing(1, 26, 23, 30, '!', colour, 27), 1, 5, '!', colour - 16, 0, 3);
        }
    }

    private static void doubleGetsAnotherValueAfter() {
        Check.sentence("whenever mosaic or double gets another value (before a letter there is seen, "
            + "if that happens at once).");
        for (int row = 1; row < 8; row++) {
            int upper = row < 7 ? 4 : 0;
            PageReceiver x = Sender.showing(row, 26, 23, 30, '!', 13, 27, '5', 27);
            Cells.letters("row " + row, x, row, 3, '!', '!', 32, '5', '5');
            Cells.sums("row " + row, x, row, 3, 3, 3, 1 + upper, 3 + upper, 3 + upper);
        }
    }

    private static void doubleGetsAnotherValueAtOnce() {
        Check.sentence("(before a letter there is seen, if that happens at once)");
        for (int row = 1; row < 8; row++) {
            int upper = row < 7 ? 4 : 0;
            PageReceiver x = Sender.showing(row, 26, 23, 30, 13, '!', 27, 12, 27, '5', 12, 27);
            Cells.letters("row " + row, x, row, 4, '!', '!', 32, 32, '5', '5', '5');
            Cells.sums("row " + row, x, row, 4, 3 + upper, 3 + upper, 1, 1, 3, 3, 3);
        }
        PageReceiver y = new PageReceiver(1);
        Sender.send(y, Sender.header(1, 0x00, 0, 0, 0, 0, "\u001a\u0017\u001e\r!\u001b\f\u001b"), Sender.end(1));
        Cells.letters("row 0", y, 0, 8 + 4, '!', '!', 32, 32);
        Cells.sums("row 0", y, 0, 8 + 4, 3, 3, 1, 1);
    }

    private static void doubleKeepsItsValue() {
        Check.sentence("double gets another value");
        PageReceiver x = Sender.showing(1, 26, 23, 30, '!', 12, 27, 13, '5', 13, 27);
        Cells.letters("held", x, 1, 3, '!', '!', '!', '!', '5', '5', '5');
        Cells.sums("held", x, 1, 3, 3, 3, 3, 3, 7, 7, 7);
    }

    private static void notSeparatedAnyMore() {
        Check.sentence("it is 32, not separated");
        Cells.due("mosaic", Sender.showing(1, 26, 23, 30, '!', 7, 23, 27), 1, 6, 32, 1);
        Cells.due("double", Sender.showing(1, 26, 23, 30, '!', 13, 27), 1, 5, 32, 5);
        Cells.due("at first", Sender.showing(1, 26, 23, 30), 1, 2, 32, 1);
    }

    /** A letter is held also while hold is off; it is seen when hold is on. */
    private static void heldWithoutHold() {
        Check.sentence("The held letter becomes each letter");
        PageReceiver x = Sender.showing(1, 23, '!', 27, 30, 31, '5', 27, 30);
        Cells.letters("held", x, 1, 1, '!', 32, '!', '!', '5', 32, '5');
        Cells.sums("held", x, 1, 1, 1, 0, 1, 1, 1, 0, 1);
    }
}
