import java.math.BigInteger;

/** The promises 10 and 11 at their edges: cells and points that there are and are not, and every point of a cell. */
public final class EdgesPointTest {
    private static final int[] FAR = {-256, -100, 64, 100, 256, 65536, Integer.MIN_VALUE, Integer.MAX_VALUE};

    private EdgesPointTest() {
    }

    public static void main(String[] args) {
        lookAnswers();
        sumOfAll();
        separatedOfBlocksAlone();
        cornersOfLook();
        noSuchCell();
        anotherWhat();
        cornersOfPoint();
        noSuchPoint();
        noSuchCellOfAPoint();
        blockBits();
        sixInsteadOfFive();
        separatedBlocks();
        otherLetters();
        greatLetters();
        upperHalves();
        lowerHalves();
        spaceHasNone();
        hiddenHasNone();
        Check.finish();
    }

    private static void lookAnswers() {
        Check.sentence("What is seen: its letter (what = 0), the colour (1), the ground (2), or a sum (3)");
        PageReceiver x = Sender.showing(1, 3, 29, 6, 11, 'a');
        Check.due("letter", x.look(1, 4, 0), 'a');
        Check.due("colour", x.look(1, 4, 1), 6);
        Check.due("ground", x.look(1, 4, 2), 3);
        Check.due("sum", x.look(1, 4, 3), 64);
    }

    private static void sumOfAll() {
        Check.sentence("1 a block, 2 separated (of blocks alone), 4 upper half, 8 lower half, 16 flash on, "
            + "32 conceal on, 64 box on.");
        Cells.due("a block", Sender.showing(1, 23, '5'), 1, 1, '5', 1);
        Cells.due("separated", Sender.showing(1, 26, 23, '5'), 1, 2, '5', 3);
        Cells.due("upper half", Sender.showing(1, 13, '5'), 1, 1, '5', 4);
        Cells.due("lower half", Sender.showing(1, 13, '5'), 2, 1, '5', 8);
        Cells.due("flash", Sender.showing(1, 8, '5'), 1, 1, '5', 16);
        Cells.due("conceal", Sender.showing(1, 24, '5'), 1, 1, 32, 32);
        Cells.due("box", Sender.showing(1, 11, '5'), 1, 1, '5', 64);
        PageReceiver x = Sender.showing(1, 23, 26, 13, 8, 24, 11, '5');
        x.key(15);
        Cells.due("all and the upper half", x, 1, 6, '5', 119);
        Cells.due("all and the lower half", x, 2, 6, '5', 123);
    }

    private static void separatedOfBlocksAlone() {
        Check.sentence("2 separated (of blocks alone)");
        PageReceiver x = Sender.receiving(Sender.row(1, 1, 26, 'a', 23, 'A', '5', 27, '7', 24, '5'),
            Sender.overlays(1, Sender.triplet(41, 4, 0), Sender.triplet(6, 15, 1)));
        Cells.sums("separated", x, 1, 0, 0, 0, 0, 0, 3, 0, 0, 32, 32);
    }

    private static void cornersOfLook() {
        Check.sentence("NONE when row is not 0 .. 7, column not 0 .. 19");
        PageReceiver x = new PageReceiver(1);
        Sender.send(x, Sender.header(1, 0x00, 0, 0, 0, 0, "abcdefghijkl"), Sender.row(1, 7, "abcdefghijklmnopqrst"));
        Sender.send(x, Sender.end(1));
        Cells.due("first of row 0", x, 0, 0, 'P', 0);
        Cells.due("last of row 0", x, 0, 19, 'l', 0);
        Cells.due("first of row 7", x, 7, 0, 'a', 0);
        Cells.due("last of row 7", x, 7, 19, 't', 0);
    }

    private static void noSuchCell() {
        Check.sentence("NONE when row is not 0 .. 7, column not 0 .. 19, or for another what.");
        PageReceiver x = Sender.showing(1, "aaaaaaaaaaaaaaaaaaaa".chars().toArray());
        for (int what = 0; what < 4; what++) {
            Check.due("row -1", x.look(-1, 0, what), -1);
            Check.due("row 8", x.look(8, 0, what), -1);
            Check.due("column -1", x.look(1, -1, what), -1);
            Check.due("column 20", x.look(1, 20, what), -1);
            for (int far : FAR) {
                Check.due("row " + far, x.look(far, 0, what), -1);
                Check.due("column " + far, x.look(0, far, what), -1);
            }
        }
    }

    private static void anotherWhat() {
        Check.sentence("or for another what.");
        PageReceiver x = Sender.showing(1, 'a');
        Check.due("what -1", x.look(1, 0, -1), -1);
        Check.due("what 4", x.look(1, 0, 4), -1);
        for (int what : FAR) {
            Check.due("what " + what, x.look(1, 0, what), -1);
        }
    }

    /** Yellow on blue: row 2, column 6 is the letter asked for. */
    private static PageReceiver coloured(int mosaic, int separation, int twice, int letter) {
        return Sender.receiving(Sender.row(1, 2, 4, 29, mosaic + 3, separation, twice, 27, letter));
    }

    private static int point(PageReceiver x, int row, int u, int v) {
        return x.point(row, 6, u, v);
    }

    /** Six lines of four points each, as they are due: # is the colour 3, . the ground 4. */
    private static void picture(String name, PageReceiver x, int row, String... lines) {
        for (int v = 0; v < 6; v++) {
            for (int u = 0; u < 4; u++) {
                int due = lines[v].charAt(u) == '#' ? 3 : 4;
                Check.due(name + " (" + u + ", " + v + ")", point(x, row, u, v), due);
            }
        }
    }

    private static void cornersOfPoint() {
        Check.sentence("The colour at the point (u, v), u 0 .. 3, v 0 .. 5, of a cell.");
        PageReceiver x = coloured(16, 25, 27, 127);
        Check.due("first", point(x, 2, 0, 0), 3);
        Check.due("last of the first line", point(x, 2, 3, 0), 3);
        Check.due("first of the last line", point(x, 2, 0, 5), 3);
        Check.due("last", point(x, 2, 3, 5), 3);
        Check.due("last cell", x.point(7, 19, 3, 5), 0);
        Check.due("first cell", x.point(0, 0, 1, 1), 7);
    }

    private static void noSuchPoint() {
        Check.sentence("NONE when there is no such point");
        PageReceiver x = coloured(16, 25, 27, 127);
        for (int good = 0; good < 4; good++) {
            Check.due("u -1", point(x, 2, -1, good), -1);
            Check.due("u 4", point(x, 2, 4, good), -1);
            Check.due("v -1", point(x, 2, good, -1), -1);
            Check.due("v 6", point(x, 2, good, 6), -1);
            for (int far : FAR) {
                Check.due("u " + far, point(x, 2, far, good), -1);
                Check.due("v " + far, point(x, 2, good, far), -1);
            }
        }
    }

    private static void noSuchCellOfAPoint() {
        Check.sentence("NONE when there is no such point or cell.");
        PageReceiver x = coloured(16, 25, 27, 127);
        Check.due("row -1", x.point(-1, 0, 0, 0), -1);
        Check.due("row 8", x.point(8, 0, 0, 0), -1);
        Check.due("column -1", x.point(0, -1, 0, 0), -1);
        Check.due("column 20", x.point(0, 20, 0, 0), -1);
        for (int far : FAR) {
            Check.due("row " + far, x.point(far, 0, 0, 0), -1);
            Check.due("column " + far, x.point(0, far, 0, 0), -1);
        }
    }

    private static void blockBits() {
        Check.sentence("of a block the bit of its letter with the number 2 * (w / 2) + u / 2 (but 6 instead of 5) "
            + "says whether the colour is there, or else the ground");
        picture("33", coloured(16, 25, 27, 32 + 1), 2, "##..", "##..", "....", "....", "....", "....");
        picture("34", coloured(16, 25, 27, 32 + 2), 2, "..##", "..##", "....", "....", "....", "....");
        picture("36", coloured(16, 25, 27, 32 + 4), 2, "....", "....", "##..", "##..", "....", "....");
        picture("40", coloured(16, 25, 27, 32 + 8), 2, "....", "....", "..##", "..##", "....", "....");
        picture("48", coloured(16, 25, 27, 32 + 16), 2, "....", "....", "....", "....", "##..", "##..");
        picture("96", coloured(16, 25, 27, 32 + 64), 2, "....", "....", "....", "....", "..##", "..##");
        picture("127", coloured(16, 25, 27, 127), 2, "####", "####", "####", "####", "####", "####");
    }

    private static void sixInsteadOfFive() {
        Check.sentence("(but 6 instead of 5)");
        picture("32", coloured(16, 25, 27, 32), 2, "....", "....", "....", "....", "....", "....");
        picture("63", coloured(16, 25, 27, 63), 2, "####", "####", "####", "####", "##..", "##..");
    }

    private static void separatedBlocks() {
        Check.sentence("but of a separated one the ground where u or w is odd.");
        picture("127", coloured(16, 26, 27, 127), 2, "#.#.", "....", "#.#.", "....", "#.#.", "....");
        picture("35", coloured(16, 26, 27, 35), 2, "#.#.", "....", "....", "....", "....", "....");
        picture("96", coloured(16, 26, 27, 96), 2, "....", "....", "....", "....", "..#.", "....");
    }

    private static boolean letterBit(int letter, int u, int w) {
        BigInteger number = BigInteger.valueOf(letter);
        return number.multiply(BigInteger.valueOf(40503)).xor(number.shiftLeft(7)).testBit(w * 4 + u);
    }

    private static void shape(String name, PageReceiver x, int row, int letter, int... lines) {
        for (int v = 0; v < 6; v++) {
            for (int u = 0; u < 4; u++) {
                int due = letterBit(letter, u, lines[v]) ? 3 : 4;
                Check.due(name + " (" + u + ", " + v + ")", point(x, row, u, v), due);
            }
        }
    }

    private static void otherLetters() {
        Check.sentence("Of other letters it is the bit w * 4 + u of (letter * 40503) xor (letter shifted left by 7)");
        for (int letter = 33; letter < 128; letter++) {
            shape("letter " + letter, coloured(0, 26, 27, letter), 2, letter, 0, 1, 2, 3, 4, 5);
        }
        // 65 * 40503 is 2632695, 65 * 128 is 8320; their xor is 2624375, in bits 10 1000 0000 1011 0111 0111
        picture("A", coloured(0, 25, 27, 'A'), 2, "###.", "###.", "##.#", "....", "...#", ".#..");
        picture("A, no block", coloured(16, 25, 27, 'A'), 2, "###.", "###.", "##.#", "....", "...#", ".#..");
    }

    private static void greatLetters() {
        Check.sentence("(letter * 40503) xor (letter shifted left by 7)");
        for (int mode = 15; mode < 32; mode++) {
            for (int data : new int[] {0, 1, 127}) {
                PageReceiver x = Sender.receiving(Sender.row(1, 2, 4, 29, 19, 26, 27, 27, '5'),
                    Sender.overlays(1, Sender.triplet(42, 4, 0), Sender.triplet(6, mode, data)));
                int overlay = mode == 15 ? 128 + data : data + 256 * (mode - 15);
                shape("overlay " + overlay, x, 2, overlay, 0, 1, 2, 3, 4, 5);
            }
        }
        PageReceiver y = new PageReceiver(1);
        Sender.send(y, Sender.header(1, 0x00, 0, 0, 0, 7, ""), Sender.row(1, 2, 4, 29, 3, 27, 27, 27, 126));
        Sender.send(y, Sender.end(1));
        shape("a set's letter", y, 2, 636, 0, 1, 2, 3, 4, 5);
    }

    private static void upperHalves() {
        Check.sentence("With w being v, or for an upper half v / 2");
        shape("upper letter", coloured(0, 25, 13, 'A'), 2, 'A', 0, 0, 1, 1, 2, 2);
        picture("upper block", coloured(16, 25, 13, 32 + 2 + 4), 2, "..##", "..##", "..##", "..##", "##..", "##..");
        picture("upper separated", coloured(16, 26, 13, 127), 2, "#.#.", "#.#.", "....", "....", "#.#.", "#.#.");
    }

    private static void lowerHalves() {
        Check.sentence("a lower one 3 + v / 2");
        shape("lower letter", coloured(0, 25, 13, 'A'), 3, 'A', 3, 3, 4, 4, 5, 5);
        picture("lower block", coloured(16, 25, 13, 32 + 8 + 16), 3, "..##", "..##", "##..", "##..", "##..", "##..");
        picture("lower separated", coloured(16, 26, 13, 127), 3, "....", "....", "#.#.", "#.#.", "....", "....");
    }

    private static void spaceHasNone() {
        Check.sentence("32 has none.");
        String[] nothing = {"....", "....", "....", "....", "....", "...."};
        picture("a space", coloured(0, 25, 27, 32), 2, nothing);
        picture("a mark", coloured(0, 25, 27, 27), 2, nothing);
        picture("an upper space", coloured(0, 25, 13, 32), 2, nothing);
        picture("a lower space", coloured(0, 25, 13, 32), 3, nothing);
        PageReceiver x = Sender.receiving(Sender.row(1, 2, 4, 29, 3, 27, 27, 27, 'A', 13, 'A'));
        picture("a space beside a lower half", x, 3, nothing);
    }

    private static void hiddenHasNone() {
        Check.sentence("32 has none");
        PageReceiver x = Sender.receiving(Sender.row(1, 2, 4, 29, 19, 24, 27, 27, 127));
        picture("concealed", x, 2, "....", "....", "....", "....", "....", "....");
        x.key(15);
        picture("revealed", x, 2, "####", "####", "####", "####", "####", "####");
        PageReceiver y = Sender.receiving(Sender.row(1, 2, 4, 29, 19, 8, 27, 27, 127));
        picture("light", y, 2, "####", "####", "####", "####", "####", "####");
        y.tick();
        picture("dark", y, 2, "....", "....", "....", "....", "....", "....");
    }
}
