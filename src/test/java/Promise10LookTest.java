/** Promise 10: letters, the head, marks, sets, overlays, what is concealed or dark. */
public final class Promise10LookTest {
    private Promise10LookTest() {
    }

    public static void main(String[] args) {
        wrongCells();
        head();
        headHasNoOverlays();
        rollingRowIsGoneThrough();
        lettersAsTheyAre();
        rowsBeginAnew();
        colours();
        mosaicColours();
        blocks();
        flash();
        box();
        conceal();
        grounds();
        separated();
        marksThatDoNothing();
        sets();
        overlays();
        overlaysAreConcealedAndDark();
        Check.finish();
    }

    private static void wrongCells() {
        PageReceiver x = Sender.showing(1, 'a');
        for (int wrong : new int[] {-1, Integer.MIN_VALUE, Integer.MAX_VALUE}) {
            Check.due("row " + wrong, x.look(wrong, 0, 0), -1);
            Check.due("column " + wrong, x.look(0, wrong, 0), -1);
            Check.due("what " + wrong, x.look(0, 0, wrong), -1);
        }
        Check.due("row 8", x.look(8, 0, 0), -1);
        Check.due("column 20", x.look(0, 20, 0), -1);
        Check.due("what 4", x.look(0, 0, 4), -1);
        Check.due("last cell", x.look(7, 19, 0), 32);
    }

    private static void head() {
        PageReceiver x = new PageReceiver(2);
        for (int magazine = 1; magazine <= 8; magazine++) {
            Sender.keys(x, magazine, 2, 9);
            Cells.letters("head", x, 0, 0, 'P', '0' + magazine, '2', '9', 32, 32, 32, 32);
        }
        PageReceiver y = new PageReceiver(1);
        Sender.send(y, Sender.header(1, 0x00, 0, 0, 0, 0, "own head ..."));
        Sender.send(y, Sender.links(1, 10, 15, 1, 14, 11, 0, 15, 15, 0), Sender.header(2, 0x00, 0, 0, 1, 0, "rolls"));
        Cells.letters("page's head", y, 0, 0, "P100    own head ...".chars().toArray());
        y.key(11);
        Cells.letters("without a page", y, 0, 0, "P1BE    rolls       ".chars().toArray());
        Sender.keys(y, 1, 0, 0, 12);
        Cells.letters("the last page of a magazine", y, 0, 0, 'P', '1', 'F', 'F', 32, 32, 32, 32);
        Sender.keys(y, 1, 0, 0, 10);
        Cells.letters("A to F", y, 0, 0, 'P', '8', 'F', 'A', 32, 32, 32, 32);
    }

    private static void headHasNoOverlays() {
        PageReceiver x = new PageReceiver(1);
        Sender.send(x, Sender.header(1, 0x00, 0, 0, 0, 3, "abc"));
        Sender.send(x, Sender.overlays(1, Sender.triplet(0, 15, 1), Sender.triplet(7, 15, 2), Sender.triplet(8, 15, 3)));
        Sender.send(x, Sender.end(1));
        Cells.letters("head", x, 0, 0, 'P', '1', '0', '0', 32, 32, 32, 32, 131, 'b');
    }

    private static void rollingRowIsGoneThrough() {
        PageReceiver x = new PageReceiver(1);
        Sender.send(x, Sender.header(5, 0x00, 0, 0, 0, 3, "\u0001a\u0012!#\r#"));
        Cells.due("mark", x, 0, 8, 32, 0);
        Cells.due("red", x, 0, 9, 'a', 1, 0, 0);
        Cells.due("block", x, 0, 11, '!', 2, 0, Cells.BLOCK);
        PageReceiver y = new PageReceiver(1);
        Sender.send(y, Sender.header(5, 0x00, 0, 0, 0, 3, "#"));
        Cells.due("without a page there is no set", y, 0, 8, '#', 0);
    }

    private static void lettersAsTheyAre() {
        PageReceiver x = new PageReceiver(1);
        Sender.send(x, Sender.header(1, 0x00));
        for (int row = 1; row <= 5; row++) {
            int[] letters = new int[20];
            for (int column = 0; column < 20; column++) {
                letters[column] = Math.min(127, 32 + 20 * (row - 1) + column);
            }
            Sender.send(x, Sender.row(1, row, letters));
        }
        Sender.send(x, Sender.end(1));
        for (int letter = 32; letter < 128; letter++) {
            Cells.due("letter", x, 1 + (letter - 32) / 20, (letter - 32) % 20, letter, 0);
        }
    }

    private static void rowsBeginAnew() {
        PageReceiver x = new PageReceiver(1);
        Sender.send(x, Sender.header(1, 0x00), Sender.row(1, 1, 17, 8, 29, 11, 26, 30, 24, '5'));
        Sender.send(x, Sender.row(1, 2, '5', 1), Sender.end(1));
        Cells.due("row 1", x, 1, 7, 32, 1, 1, 64 + 32 + 16);
        Cells.due("row 2", x, 2, 0, '5', 0);
        Cells.due("row 1", x, 1, 7, 32, 1, 1, 64 + 32 + 16);
        Cells.due("a mark in row 2", x, 2, 1, 32, 0);
    }

    private static void colours() {
        for (int colour = 0; colour < 8; colour++) {
            PageReceiver x = Sender.showing(1, 'a', colour, 'b', 3, colour, 'c');
            Cells.due("before", x, 1, 0, 'a', 0);
            Cells.due("the mark", x, 1, 1, 32, 0);
            Cells.due("after", x, 1, 2, 'b', colour, 0, 0);
            Cells.due("second mark", x, 1, 3, 32, colour, 0, 0);
            Cells.due("third mark", x, 1, 4, 32, 3, 0, 0);
            Cells.due("after it", x, 1, 5, 'c', colour, 0, 0);
        }
    }

    private static void mosaicColours() {
        for (int colour = 0; colour < 8; colour++) {
            PageReceiver x = Sender.showing(1, '5', 16 + colour, '5', 'A', 5, '5');
            Cells.due("before", x, 1, 0, '5', 0);
            Cells.due("the mark", x, 1, 1, 32, 0);
            Cells.due("a block", x, 1, 2, '5', colour, 0, Cells.BLOCK);
            Cells.due("a letter", x, 1, 3, 'A', colour, 0, 0);
            Cells.due("a mark without hold is no block", x, 1, 4, 32, colour, 0, 0);
            Cells.due("mosaic off", x, 1, 5, '5', 5, 0, 0);
        }
    }

    private static void blocks() {
        for (int letter = 32; letter < 128; letter++) {
            PageReceiver x = Sender.showing(1, 23, letter);
            boolean block = letter < 64 || letter > 95;
            Cells.due("letter", x, 1, 1, letter, block ? Cells.BLOCK : 0);
        }
    }

    private static void flash() {
        PageReceiver x = Sender.showing(1, 'a', 8, 'b', 9, 'c', 8, 1, 'd', 17, '5');
        Cells.sums("flash", x, 1, 0, 0, 0, 16, 0, 0, 0, 16, 16, 16, 17);
        x.tick();
        Cells.letters("dark", x, 1, 0, 'a', 32, 32, 32, 'c', 32, 32, 32, 32, 32);
        Cells.sums("dark", x, 1, 0, 0, 0, 16, 0, 0, 0, 16, 16, 16, 16);
        Cells.due("a dark letter's colour", x, 1, 7, 32, 1, 0, 16);
        PageReceiver y = Sender.showing(1, 23, 8, '5', 30, 9);
        y.tick();
        Cells.due("a dark held letter", y, 1, 3, 32, 16);
        Cells.due("it was held though dark", y, 1, 4, '5', 1);
    }

    private static void box() {
        PageReceiver x = Sender.showing(1, 'a', 11, 'b', 10, 'c', 11, 1, 11, 17, '5');
        Cells.sums("box", x, 1, 0, 0, 0, 64, 64, 0, 0, 64, 64, 64, 65);
        x.tick();
        Cells.letters("a box hides nothing", x, 1, 0, 'a', 32, 'b', 32, 'c');
    }

    private static void conceal() {
        PageReceiver x = Sender.showing(1, 'a', 24, 'b', 1, 'c', 24, 'd', 18, '5', 24, '5', 8, '5');
        Cells.sums("concealed", x, 1, 0, 0, 32, 32, 32, 0, 32, 32, 32, 1, 32, 32, 32, 48);
        Cells.letters("concealed", x, 1, 0, 'a', 32, 32, 32, 'c', 32, 32, 32, '5', 32, 32, 32, 32);
        x.key(15);
        Cells.sums("revealed", x, 1, 0, 0, 32, 32, 32, 0, 32, 32, 32, 1, 32, 33, 32, 49);
        Cells.letters("revealed", x, 1, 0, 'a', 32, 'b', 32, 'c', 32, 'd', 32, '5', 32, '5', 32, '5');
        x.tick();
        Cells.due("revealed, but dark", x, 1, 12, 32, 2, 0, 48);
        Cells.due("revealed, no flash", x, 1, 10, '5', 2, 0, 33);
        PageReceiver y = Sender.showing(1, 23, '5', 30, 24, '7', 1, '!');
        Cells.due("a held letter is concealed", y, 1, 3, 32, 32);
        y.key(15);
        Cells.due("a held letter is revealed", y, 1, 3, '5', 33);
        Cells.due("it was held though concealed", y, 1, 5, '7', 33);
        PageReceiver z = Sender.showing(1, 23, 30, 24, '7', 17, 17);
        Cells.due("conceal off behind its mark", z, 1, 5, '7', 1, 0, 1);
    }

    private static void grounds() {
        PageReceiver x = Sender.showing(1, 3, 29, 'a', 5, 'b', 28, 'c', 29, 29);
        Cells.due("before", x, 1, 0, 32, 0);
        Cells.due("at once", x, 1, 1, 32, 3, 3, 0);
        Cells.due("behind it", x, 1, 2, 'a', 3, 3, 0);
        Cells.due("another colour", x, 1, 4, 'b', 5, 3, 0);
        Cells.due("black at once", x, 1, 5, 32, 5, 0, 0);
        Cells.due("black", x, 1, 6, 'c', 5, 0, 0);
        Cells.due("the other colour", x, 1, 8, 32, 5, 5, 0);
        PageReceiver y = Sender.showing(1, 29, 'a');
        Cells.due("white on white", y, 1, 0, 32, 7, 7, 0);
    }

    private static void separated() {
        PageReceiver x = Sender.showing(1, 26, 'a', 23, '5', 'A', 25, '5', 26, '5', 7, 'a', 23, '5');
        Cells.sums("separated", x, 1, 0, 0, 0, 0, 3, 0, 0, 1, 0, 3, 0, 0, 0, 3);
        Cells.letters("separated", x, 1, 0, 32, 'a', 32, '5', 'A', 32, '5', 32, '5', 32, 'a', 32, '5');
        PageReceiver y = Sender.showing(1, 23, 26, 24, '5', 8, '5');
        Cells.sums("what is concealed is not separated", y, 1, 0, 0, 0, 32, 32, 32, 48);
    }

    private static void marksThatDoNothing() {
        for (int mark : new int[] {14, 15, 27}) {
            PageReceiver x = Sender.showing(1, 17, 30, 26, 11, 13, '5', mark, '7');
            Cells.due("the mark " + mark, x, 1, 6, '5', 1, 0, 64 + 4 + 3);
            Cells.due("behind the mark " + mark, x, 1, 7, '7', 1, 0, 64 + 4 + 3);
        }
    }

    private static void sets() {
        int[] letters = {35, 36, 64, 91, 92, 93, 94, 95, 96, 123, 124, 125, 126};
        int[] others = {32, 34, 37, 63, 65, 90, 97, 122, 127};
        for (int g = 0; g < 16; g++) {
            int set = g % 8;
            PageReceiver x = new PageReceiver(1);
            Sender.send(x, Sender.header(1, 0x00, 0, 0, 0, g, "#"), Sender.row(1, 1, letters), Sender.row(1, 2, others));
            Sender.send(x, Sender.row(1, 3, 23, 35, 64, 91, 95, 96, 126), Sender.end(1));
            for (int i = 0; i < letters.length; i++) {
                Cells.due("set " + set, x, 1, i, set == 0 ? letters[i] : 512 + 16 * set + i, 0);
            }
            for (int i = 0; i < others.length; i++) {
                Cells.due("no set " + set, x, 2, i, others[i], 0);
            }
            Cells.letters("row 0", x, 0, 8, set == 0 ? 35 : 512 + 16 * set);
            Cells.letters("blocks are of no set", x, 3, 1, 35);
            Cells.letters("letters among blocks", x, 3, 2, set == 0 ? 64 : 514 + 16 * set,
                set == 0 ? 91 : 515 + 16 * set, set == 0 ? 95 : 519 + 16 * set, 96, 126);
        }
    }

    private static void overlays() {
        PageReceiver x = new PageReceiver(1);
        Sender.send(x, Sender.header(1, 0x00, 0, 0, 0, 2, ""));
        Sender.send(x, Sender.row(1, 1, 3, '#', 19, 26, '5', '7', 30, '!', 1, 'A'));
        Sender.send(x, Sender.overlays(1, Sender.triplet(41, 4, 0), Sender.triplet(0, 16, 0), Sender.triplet(1, 15, 127),
            Sender.triplet(5, 15, 7), Sender.triplet(6, 15, 8), Sender.triplet(9, 31, 127)));
        Sender.send(x, Sender.end(1));
        Cells.due("a mark has no overlay", x, 1, 0, 32, 0);
        Cells.due("in place of a set's letter", x, 1, 1, 255, 3, 0, 0);
        Cells.due("a block", x, 1, 4, '5', 3, 0, 3);
        Cells.due("in place of a block", x, 1, 5, 135, 3, 0, 0);
        Cells.due("what is held has no overlay", x, 1, 6, '5', 3, 0, 3);
        Cells.due("another block", x, 1, 7, '!', 3, 0, 3);
        Cells.due("which is held", x, 1, 8, '!', 3, 0, 3);
        Cells.due("the greatest", x, 1, 9, 4223, 1, 0, 0);
    }

    private static void overlaysAreConcealedAndDark() {
        PageReceiver x = new PageReceiver(1);
        Sender.send(x, Sender.header(1, 0x00), Sender.row(1, 1, 24, 'a', 7, 8, 'b'));
        Sender.send(x, Sender.overlays(1, Sender.triplet(41, 4, 0), Sender.triplet(1, 15, 1), Sender.triplet(4, 15, 2)));
        Sender.send(x, Sender.end(1));
        Cells.due("concealed", x, 1, 1, 32, 32);
        Cells.due("light", x, 1, 4, 130, 16);
        x.tick();
        Cells.due("dark", x, 1, 4, 32, 16);
        x.key(15);
        Cells.due("revealed", x, 1, 1, 129, 32);
    }
}
