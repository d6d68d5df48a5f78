/** Promise 11: the colour at every point of a cell. */
public final class Promise11PointTest {
    /** Row 2 of each page: yellow on blue; its column 6 is the letter asked for. */
    private static final int INK = 3;
    private static final int PAPER = 4;

    private Promise11PointTest() {
    }

    public static void main(String[] args) {
        wrongPoints();
        for (int letter = 32; letter < 128; letter += 5) {
            plainLetter(letter);
        }
        plainLetter(35);
        plainLetter(126);
        for (int letter = 32; letter < 128; letter++) {
            if (letter < 64 || letter > 95) {
                block(letter, false);
                block(letter, true);
            }
        }
        overlay(128);
        overlay(4223);
        setLetter();
        space();
        Check.finish();
    }

    private static void wrongPoints() {
        PageReceiver x = Sender.showing(1, 'a');
        for (int wrong : new int[] {-1, 20, Integer.MIN_VALUE, Integer.MAX_VALUE}) {
            Check.due("row " + wrong, x.point(wrong, 0, 0, 0), -1);
            Check.due("column " + wrong, x.point(0, wrong, 0, 0), -1);
            Check.due("u " + wrong, x.point(0, 0, wrong, 0), -1);
            Check.due("v " + wrong, x.point(0, 0, 0, wrong), -1);
        }
        Check.due("row 8", x.point(8, 0, 0, 0), -1);
        Check.due("u 4", x.point(0, 0, 4, 0), -1);
        Check.due("v 6", x.point(0, 0, 0, 6), -1);
        Check.due("last point", x.point(7, 19, 3, 5), 0);
    }

    /** A page whose row 2 has marks and then a letter, single and double. */
    private static PageReceiver coloured(int colour, int separation, int letter, boolean twice, int set) {
        PageReceiver x = new PageReceiver(1);
        Sender.send(x, Sender.header(1, 0x00, 0, 0, 0, set, ""));
        Sender.send(x, Sender.row(1, 2, PAPER, 29, colour, separation, twice ? 13 : 14, 27, letter));
        return x;
    }

    private static boolean letterBit(int letter, int u, int w) {
        long shape = letter * 40503L ^ (long) letter << 7;
        return letter != 32 && (shape >> (4 * w + u) & 1) == 1;
    }

    private static boolean blockBit(int letter, boolean separated, int u, int w) {
        int[][] bits = {{0, 1}, {2, 3}, {4, 6}};
        if (separated && (u % 2 == 1 || w % 2 == 1)) {
            return false;
        }
        return (letter >> bits[w / 2][u / 2] & 1) == 1;
    }

    private interface Shape {
        boolean has(int u, int w);
    }

    private static void points(String name, PageReceiver x, int row, int half, Shape shape) {
        for (int u = 0; u < 4; u++) {
            for (int v = 0; v < 6; v++) {
                int w = half == 0 ? v : half == 1 ? v / 2 : 3 + v / 2;
                String point = name + ", half " + half + " (" + u + ", " + v + ")";
                Check.due(point, x.point(row, 6, u, v), shape.has(u, w) ? INK : PAPER);
            }
        }
    }

    private static void single(String name, PageReceiver x, Shape shape) {
        Sender.send(x, Sender.end(1));
        points(name, x, 2, 0, shape);
    }

    private static void twice(String name, PageReceiver x, Shape shape) {
        Sender.send(x, Sender.end(1));
        points(name, x, 2, 1, shape);
        points(name, x, 3, 2, shape);
    }

    private static void plainLetter(int letter) {
        Shape shape = (u, w) -> letterBit(letter, u, w);
        single("letter " + letter, coloured(INK, 26, letter, false, 0), shape);
        twice("letter " + letter, coloured(INK, 25, letter, true, 0), shape);
    }

    private static void block(int letter, boolean separated) {
        Shape shape = (u, w) -> blockBit(letter, separated, u, w);
        int separation = separated ? 26 : 25;
        single("block " + letter, coloured(16 + INK, separation, letter, false, 0), shape);
        twice("block " + letter, coloured(16 + INK, separation, letter, true, 0), shape);
    }

    private static void overlay(int overlay) {
        Shape shape = (u, w) -> letterBit(overlay, u, w);
        int mode = overlay < 256 ? 15 : 15 + overlay / 256;
        int[] packet = Sender.overlays(1, Sender.triplet(42, 4, 0), Sender.triplet(6, mode, overlay % 128));
        PageReceiver x = coloured(16 + INK, 26, '5', false, 0);
        Sender.send(x, packet);
        single("overlay " + overlay, x, shape);
        PageReceiver y = coloured(INK, 26, '5', true, 0);
        Sender.send(y, packet);
        twice("overlay " + overlay, y, shape);
    }

    private static void setLetter() {
        Shape shape = (u, w) -> letterBit(512 + 16 * 7 + 12, u, w);
        single("a set's letter", coloured(INK, 26, 126, false, 7), shape);
        twice("a set's letter", coloured(INK, 26, 126, true, 7), shape);
    }

    private static void space() {
        Shape shape = (u, w) -> false;
        single("a space", coloured(INK, 26, 32, false, 0), shape);
        single("a mark", coloured(INK, 26, 27, false, 0), shape);
        single("what is concealed", coloured(INK, 26, 24, false, 0), shape);
    }
}
