/** The section Terms at its edges: row 0, what a row begins with, letters, blocks, overlays, sets, what is hidden. */
public final class EdgesSeenTest {
    private static final int[] SET_LETTERS = {35, 36, 64, 91, 92, 93, 94, 95, 96, 123, 124, 125, 126};

    private EdgesSeenTest() {
    }

    public static void main(String[] args) {
        headOfEveryMagazine();
        headDigits();
        headWithoutOverlays();
        headOfTheWantedPage();
        rollingRowWithoutAPage();
        rollingRowNotWithAPage();
        spacesWithoutAPage();
        statesAtFirst();
        statesInEveryRow();
        lettersFromThirtyTwo();
        blocks();
        marksAreSpaces();
        marksAsBlocks();
        overlayInPlaceOfALetter();
        overlayOfAMark();
        overlayIsNoBlock();
        setLetters();
        setOfBlocks();
        setZero();
        concealed();
        concealedAndRevealed();
        flashing();
        concealedAndFlashing();
        Check.finish();
    }

    private static void wantedIs(PageReceiver x, int number, int... letters) {
        Check.due("wanted", x.viewer(0), number);
        Cells.letters("wanted " + number, x, 0, 0, letters);
        Cells.letters("wanted " + number, x, 0, 4, 32, 32, 32, 32);
    }

    private static void headOfEveryMagazine() {
        Check.sentence("the magazine, 8 for 0");
        for (int digit = 1; digit <= 8; digit++) {
            PageReceiver x = new PageReceiver(1);
            Sender.keys(x, digit, 0, 0);
            wantedIs(x, 256 * (digit % 8), 'P', '0' + digit, '0', '0');
            PageReceiver y = Sender.receiving(Sender.links(1, 15, 15, digit % 8 ^ 1));
            y.key(10);
            wantedIs(y, 256 * (digit % 8) + 255, 'P', '0' + digit, 'F', 'F');
        }
    }

    private static void headDigits() {
        Check.sentence("tens; units; A to F for 10 to 15)");
        String digits = "0123456789ABCDEF";
        for (int tens = 0; tens < 16; tens++) {
            PageReceiver x = Sender.receiving(Sender.links(1, 15 - tens, tens, 0));
            x.key(10);
            wantedIs(x, 256 + 16 * tens + 15 - tens, 'P', '1', digits.charAt(tens), digits.charAt(15 - tens));
        }
    }

    private static void headWithoutOverlays() {
        Check.sentence("and four spaces, without overlays");
        for (int column = 0; column < 20; column++) {
            PageReceiver x = new PageReceiver(1);
            Sender.send(x, Sender.header(1, 0x00, 0, 0, 0, 1, "abcdefghijkl"));
            Sender.send(x, Sender.overlays(1, Sender.triplet(column, 16, 1)), Sender.end(1));
            int own = column < 8 ? "P100    ".charAt(column) : 257;
            Cells.due("overlay at " + column, x, 0, column, own, 0);
        }
    }

    /** Digits that wait are not seen; a held page is the wanted one. */
    private static void headOfTheWantedPage() {
        Check.sentence("in row 0 the columns 0 to 7 have P, three digits (of the wanted page");
        PageReceiver x = Sender.receiving();
        wantedIs(x, 256, 'P', '1', '0', '0');
        Sender.keys(x, 2, 3);
        wantedIs(x, 256, 'P', '1', '0', '0');
        Sender.keys(x, 4);
        wantedIs(x, 0x234, 'P', '2', '3', '4');
    }

    private static void rollingRowWithoutAPage() {
        Check.sentence("without a page, its columns 8 to 19 are those of the rolling row");
        PageReceiver x = new PageReceiver(1);
        Sender.send(x, Sender.header(2, 0x00, 0, 0, 0, 5, "a\u0001b\u0012!\u001a!#jkl"));
        Cells.letters("rolling row", x, 0, 7, 32, 'a', 32, 'b', 32, '!', 32, '!', '#', 'j', 'k', 'l', 32);
        Cells.due("red", x, 0, 10, 'b', 1, 0, 0);
        Cells.due("a block", x, 0, 12, '!', 2, 0, 1);
        Cells.due("a separated block, not of a set", x, 0, 15, '#', 2, 0, 3);
        Sender.send(x, Sender.header(2, 0x00, 0, 0, 0, 5, "#"));
        Cells.due("no page, no set", x, 0, 8, '#', 0);
    }

    private static void rollingRowNotWithAPage() {
        Check.sentence("WHAT IS SEEN in row r, column x: the letters are those of the page that is shown");
        PageReceiver x = new PageReceiver(1);
        Sender.send(x, Sender.header(1, 0x00, 0, 0, 0, 0, "own letters"), Sender.row(1, 5, "row"));
        Sender.send(x, Sender.header(1, 0xFF, 0, 0, 0, 0, "they roll"));
        Cells.letters("row 0", x, 0, 8, 'o', 'w', 'n');
        Cells.letters("row 5", x, 5, 0, 'r', 'o', 'w', 32);
        Sender.keys(x, 2, 0, 0);
        Cells.letters("without a page", x, 0, 8, 't', 'h', 'e', 'y');
    }

    private static void spacesWithoutAPage() {
        Check.sentence("and all other rows have spaces.");
        PageReceiver x = Sender.receiving(Sender.row(1, 1, "abc"), Sender.row(1, 7, 13, 8, 24, 11, 'a'));
        Sender.keys(x, 2, 0, 0);
        for (int row = 1; row < 8; row++) {
            for (int column : new int[] {0, 1, 8, 19}) {
                Cells.due("without a page", x, row, column, 32, 0);
            }
        }
    }

    private static void statesAtFirst() {
        Check.sentence("A row is gone through from the left, with STATES: a colour 7, a ground 0, mosaic, flash, "
            + "conceal, box, double, separated and hold off, the HELD letter 32.");
        PageReceiver x = Sender.receiving(Sender.row(1, 1, "5a#"));
        for (int column = 0; column < 20; column++) {
            Cells.due("row 1", x, 1, column, column < 3 ? "5a#".charAt(column) : 32, 0);
        }
        Cells.due("separated is off", Sender.showing(1, 23, '5'), 1, 1, '5', 1);
        Cells.due("hold is off", Sender.showing(1, 23, '5', 27), 1, 2, 32, 0);
        Cells.due("the held letter is 32", Sender.showing(1, 30, 23, 27, '5'), 1, 2, 32, 1);
    }

    /** Nothing is left of the row above, or of what was looked at before. */
    private static void statesInEveryRow() {
        Check.sentence("A row is gone through from the left");
        PageReceiver x = Sender.receiving(Sender.row(1, 1, 17, 29, 26, 8, 11, 30, '5', 24),
            Sender.row(1, 2, '5', 27, 23, 30, '5'), Sender.row(1, 3, 1, 8), Sender.row(1, 4, 27, 'a'));
        for (int i = 0; i < 2; i++) {
            Cells.due("row 1", x, 1, 19, 32, 1, 1, 64 + 32 + 16);
            Cells.due("row 2", x, 2, 0, '5', 0);
            Cells.due("a mark in row 2", x, 2, 1, 32, 0);
            Cells.due("nothing held in row 2", x, 2, 3, 32, 1);
            Cells.due("a block in row 2", x, 2, 4, '5', 1);
            Cells.due("row 3", x, 3, 19, 32, 1, 0, 16);
            Cells.due("row 4", x, 4, 1, 'a', 0);
        }
    }

    private static void lettersFromThirtyTwo() {
        Check.sentence("A letter from 32 on is seen as it is");
        for (int letter : new int[] {32, 33, 63, 64, 65, 95, 96, 126, 127}) {
            PageReceiver x = Sender.showing(1, 'a', letter, 'b');
            Cells.due("letter", x, 1, 1, letter, 0);
            Cells.due("behind it", x, 1, 2, 'b', 0);
        }
    }

    private static void blocks() {
        Check.sentence("it is a BLOCK when mosaic is on and it is not 64 .. 95.");
        for (int letter = 32; letter < 128; letter++) {
            PageReceiver x = Sender.showing(1, letter, 23, letter, 7, letter);
            Cells.due("mosaic is off", x, 1, 0, letter, 0);
            Cells.due("mosaic is on", x, 1, 2, letter, letter <= 63 || letter >= 96 ? 1 : 0);
            Cells.due("mosaic is off again", x, 1, 4, letter, 0);
        }
    }

    private static void marksAreSpaces() {
        Check.sentence("A letter below 32 is a MARK; it is seen as a space");
        for (int mark = 0; mark < 32; mark++) {
            Check.due("mark " + mark, Sender.showing(1, mark).look(1, 0, 0), 32);
            Check.due("mosaic, mark " + mark, Sender.showing(1, 23, '5', mark).look(1, 2, 0), mark == 30 ? '5' : 32);
            Check.due("hold, mark " + mark, Sender.showing(1, 30, '5', mark).look(1, 2, 0), 32);
        }
    }

    private static void marksAsBlocks() {
        Check.sentence("or, when hold and mosaic are on, as the held letter, a block.");
        for (int mark = 0; mark < 32; mark++) {
            PageReceiver x = Sender.showing(1, 23, 30, '5', mark);
            Check.due("mark " + mark, x.look(1, 3, 0), mark == 24 ? 32 : '5');
            Check.due("sum of mark " + mark, x.look(1, 3, 3), mark == 24 ? 32 : 1);
        }
    }

    private static PageReceiver overlaid(int overlay, int column, int... letters) {
        int mode = overlay < 256 ? 15 : 15 + overlay / 256;
        return Sender.receiving(Sender.row(1, 1, letters),
            Sender.overlays(1, Sender.triplet(41, 4, 0), Sender.triplet(column, mode, overlay % 128)));
    }

    private static void overlayInPlaceOfALetter() {
        Check.sentence("An overlay that is not none is seen in place of a letter from 32 on, no block.");
        for (int overlay : new int[] {128, 255, 256, 383, 512, 4096, 4223}) {
            Cells.due("a letter", overlaid(overlay, 1, 'a', 'b'), 1, 1, overlay, 0);
            Cells.due("a space", overlaid(overlay, 1, 'a', 32), 1, 1, overlay, 0);
            Cells.due("127", overlaid(overlay, 1, 'a', 127), 1, 1, overlay, 0);
        }
        Cells.due("none beside it", overlaid(128, 1, 'a', 'b', 'c'), 1, 0, 'a', 0);
        Cells.due("none behind it", overlaid(128, 1, 'a', 'b', 'c'), 1, 2, 'c', 0);
    }

    private static void overlayOfAMark() {
        Check.sentence("in place of a letter from 32 on");
        for (int mark = 0; mark < 32; mark++) {
            PageReceiver x = overlaid(300, 1, 23, mark, '5');
            PageReceiver y = Sender.showing(1, 23, mark, '5');
            for (int what = 0; what < 4; what++) {
                Check.due("mark " + mark + ", " + what, x.look(1, 1, what), y.look(1, 1, what));
                Check.due("behind mark " + mark + ", " + what, x.look(1, 2, what), y.look(1, 2, what));
            }
        }
    }

    private static void overlayIsNoBlock() {
        Check.sentence("is seen in place of a letter from 32 on, no block.");
        PageReceiver x = overlaid(300, 2, 19, 26, '5', '7');
        Cells.due("overlay", x, 1, 2, 300, 3, 0, 0);
        Cells.due("a block behind it", x, 1, 3, '7', 3, 0, 3);
    }

    private static PageReceiver ofSet(int g, int[]... packets) {
        PageReceiver x = new PageReceiver(1);
        Sender.send(x, Sender.header(1, 0x00, 0, 0, 0, g, "#\u007f~"));
        Sender.send(x, packets);
        Sender.send(x, Sender.end(1));
        return x;
    }

    private static void setLetters() {
        Check.sentence("Otherwise, of a letter that is no block, one of 35, 36, 64, 91 to 96, 123 to 126 "
            + "(index 0 to 12) is seen as 512 + 16 * set + index when the set of the page is not 0.");
        for (int g = 1; g < 8; g++) {
            for (int letter = 32; letter < 128; letter++) {
                int due = letter;
                for (int index = 0; index < 13; index++) {
                    due = SET_LETTERS[index] == letter ? 512 + 16 * g + index : due;
                }
                Check.due("set " + g + ", letter " + letter, ofSet(g, Sender.row(1, 1, letter)).look(1, 0, 0), due);
            }
            Cells.letters("row 0 of set " + g, ofSet(g), 0, 8, 512 + 16 * g, 127, 512 + 16 * g + 12);
        }
    }

    private static void setOfBlocks() {
        Check.sentence("Otherwise, of a letter that is no block");
        PageReceiver x = ofSet(7, Sender.row(1, 1, 23, 35, 36, 64, 91, 95, 96, 123, 126),
            Sender.row(1, 2, 35, 36), Sender.overlays(1, Sender.triplet(42, 4, 0), Sender.triplet(0, 15, 1)));
        Cells.letters("blocks", x, 1, 1, 35, 36, 626, 627, 631, 96, 123, 126);
        Cells.sums("blocks", x, 1, 1, 1, 1, 0, 0, 0, 1, 1, 1);
        Cells.letters("overlay", x, 2, 0, 129, 625);
    }

    private static void setZero() {
        Check.sentence("when the set of the page is not 0.");
        for (int g : new int[] {0, 8}) {
            Cells.letters("set " + g, ofSet(g, Sender.row(1, 1, SET_LETTERS)), 1, 0, SET_LETTERS);
        }
        Cells.letters("set 15", ofSet(15, Sender.row(1, 1, SET_LETTERS)), 1, 0, 624, 625, 626);
    }

    private static void concealed() {
        Check.sentence("What is concealed (and not revealed) is seen as 32, no block");
        PageReceiver x = Sender.receiving(Sender.row(1, 1, 23, 26, '5', 30, 24, '7', 'A', 27),
            Sender.row(1, 2, 24, 'a', 'b'), Sender.overlays(1, Sender.triplet(42, 4, 0), Sender.triplet(1, 15, 1)));
        Cells.letters("concealed", x, 1, 2, '5', '5', 32, 32, 32, 32, 32);
        Cells.sums("concealed", x, 1, 2, 3, 3, 32, 32, 32, 32, 32);
        Cells.letters("a concealed overlay", x, 2, 0, 32, 32, 32);
    }

    private static void concealedAndRevealed() {
        Check.sentence("What is concealed (and not revealed)");
        PageReceiver x = Sender.receiving(Sender.row(1, 1, 23, 26, '5', 30, 24, '7', 'A', 27),
            Sender.row(1, 2, 24, 'a', 'b'), Sender.overlays(1, Sender.triplet(42, 4, 0), Sender.triplet(1, 15, 1)));
        x.key(15);
        Cells.letters("revealed", x, 1, 2, '5', '5', '5', '7', 'A', '7', 32);
        Cells.sums("revealed", x, 1, 2, 3, 3, 35, 35, 32, 35, 35);
        Cells.letters("a revealed overlay", x, 2, 0, 32, 129, 'b');
    }

    private static void flashing() {
        Check.sentence("and so is what flashes while the light is off.");
        PageReceiver x = Sender.receiving(Sender.row(1, 1, 23, 26, 30, '5', 8, '7', 'A', 27, 9, 'b'),
            Sender.row(1, 2, 8, 'a', '#'), Sender.overlays(1, Sender.triplet(42, 4, 0), Sender.triplet(1, 15, 1)));
        Cells.letters("light", x, 1, 3, '5', '5', '7', 'A', '7', '7', 'b');
        Cells.sums("light", x, 1, 3, 3, 3, 19, 16, 19, 3, 3);
        Cells.letters("a light overlay", x, 2, 0, 32, 129, '#');
        x.tick();
        Cells.letters("dark", x, 1, 3, '5', '5', 32, 32, 32, '7', 'b');
        Cells.sums("dark", x, 1, 3, 3, 3, 16, 16, 16, 3, 3);
        Cells.letters("a dark overlay", x, 2, 0, 32, 32, 32);
    }

    private static void concealedAndFlashing() {
        Check.sentence("and so is what flashes");
        PageReceiver x = Sender.showing(1, 8, 24, 'a');
        Cells.due("concealed, light", x, 1, 2, 32, 48);
        x.key(15);
        Cells.due("revealed, light", x, 1, 2, 'a', 48);
        x.tick();
        Cells.due("revealed, dark", x, 1, 2, 32, 48);
        x.key(15);
        Cells.due("concealed, dark", x, 1, 2, 32, 48);
    }
}
