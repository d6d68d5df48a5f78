/** Promise 2: bytes become packets; what headers and the rows 1 to 7 do. */
public final class Promise02FeedTest {
    private Promise02FeedTest() {
    }

    public static void main(String[] args) {
        wrongNumbers();
        bytesAreCounted();
        highestByteIsFirst();
        packetsMayBeginAnywhere();
        headerBringsAPage();
        headerCompletesItsMagazine();
        oddHeaderCompletesAll();
        headerWithoutAPage();
        headerTakesWhatIsKept();
        rollingRow();
        rowsOfLetters();
        wrongLettersStay();
        otherRowsDoNothing();
        lostAddress();
        lostHeader();
        Check.finish();
    }

    private static void wrongNumbers() {
        PageReceiver x = new PageReceiver(1);
        x.feed(5, 3);
        for (int n : new int[] {0, -1, -8, 9, 64, Integer.MIN_VALUE, Integer.MAX_VALUE}) {
            Check.due("feed of " + n, x.feed(-1L, n), -1);
        }
        Check.due("bytes left", x.reset(), 3);
    }

    private static void bytesAreCounted() {
        for (int n = 1; n <= 8; n++) {
            PageReceiver x = new PageReceiver(1);
            for (int i = 1; i <= 44; i++) {
                Check.due("feed " + i + " of " + n, x.feed(0, n), i * n % 22);
            }
            Check.due("packets of " + n, x.count(0), 2 * n);
        }
    }

    private static void highestByteIsFirst() {
        PageReceiver x = new PageReceiver(1);
        int[] packet = Sender.header(2, 0x34, 5, 0, 0, 6, "abcdefghijkl");
        // the bytes above the lowest n are not taken
        for (int i = 0; i < 22; i += 2) {
            x.feed(0x7F55AA0000000000L | (long) packet[i] << 8 | packet[i + 1], 2);
        }
        Sender.send(x, Sender.end(2));
        Check.due("number", x.kept(0, 0), 0x234);
        Check.due("subcode", x.kept(0, 1), 5);
        Check.due("set", x.kept(0, 2), 6);
        PageReceiver y = new PageReceiver(1);
        for (int i = 0; i < 22; i++) {
            Check.due("byte " + i, y.feed(packet[i] - 256L, 1), (i + 1) % 22);
        }
        Check.due("first letter", y.look(0, 8, 0), 'a');
        Check.due("last letter", y.look(0, 19, 0), 'l');
    }

    private static void packetsMayBeginAnywhere() {
        int[] first = Sender.header(1, 0x00, 0, 0, 0, 0, "first");
        int[] second = Sender.header(1, 0x01, 0, 0, 0, 0, "second");
        PageReceiver x = new PageReceiver(1);
        long bytes = 0;
        for (int i = 0; i < 44; i++) {
            bytes = bytes << 8 | (i < 22 ? first[i] : second[i - 22]);
            if (i % 8 == 7) {
                Check.due("feed to " + i, x.feed(bytes, 8), (i + 1) % 22);
            }
        }
        Check.due("a packet within eight bytes", x.count(0), 1);
        Check.due("it is taken", x.look(0, 8, 0), 'f');
        Check.due("the rest", x.feed(bytes, 4), 0);
        Check.due("second packet", x.shown(), 256);
    }

    private static void headerBringsAPage() {
        PageReceiver x = new PageReceiver(2);
        Sender.send(x, Sender.header(1, 0x00, 9, 0, 0, 13, "abc"));
        Check.due("not kept yet", x.kept(0, 0), -1);
        Check.due("not shown yet", x.shown(), -1);
        Sender.send(x, Sender.end(1));
        Check.due("number", x.kept(0, 0), 256);
        Check.due("subcode", x.kept(0, 1), 9);
        Check.due("set is g modulo 8", x.kept(0, 2), 5);
        Check.due("row 0", x.look(0, 10, 0), 'c');
        for (int k = 4; k <= 7; k++) {
            Check.due("link " + k, x.kept(0, k), -1);
        }
        PageReceiver y = new PageReceiver(3);
        Sender.keep(y, 0, 0xFE);
        Sender.keep(y, 7, 0xEF);
        Check.due("tens 15 alone", y.kept(0, 0), 0xFE);
        Check.due("units 15 alone", y.kept(1, 0), 0x7EF);
    }

    private static void headerCompletesItsMagazine() {
        PageReceiver x = new PageReceiver(4);
        Sender.send(x, Sender.header(2, 0x10), Sender.header(1, 0x10));
        for (int t = 0; t < 16; t += 2) {
            Sender.send(x, Sender.header(1, 0x10, 0, 0, t, 0, ""));
        }
        Check.due("completed", x.count(5), 8);
        Check.due("kept", x.kept(0, 0), 0x110);
        Check.due("the other is still coming", x.kept(1, 0), -1);
    }

    private static void oddHeaderCompletesAll() {
        for (int t = 1; t < 16; t += 2) {
            PageReceiver x = new PageReceiver(4);
            Sender.send(x, Sender.header(7, 0x17), Sender.header(2, 0x12), Sender.header(0, 0x10));
            Sender.send(x, Sender.header(5, 0x15), Sender.header(2, 0x13, 0, 0, t, 0, ""));
            Check.due("completed", x.count(5), 4);
            Check.due("magazine 0 first", x.kept(0, 0), 0x010);
            Check.due("then 2", x.kept(1, 0), 0x212);
            Check.due("then 5", x.kept(2, 0), 0x515);
            Check.due("then 7", x.kept(3, 0), 0x717);
            Sender.send(x, Sender.end(7), Sender.end(5), Sender.end(0));
            Check.due("no longer coming", x.count(5), 4);
            Sender.send(x, Sender.end(2));
            Check.due("its own is coming", x.count(5), 5);
        }
    }

    private static void headerWithoutAPage() {
        PageReceiver x = new PageReceiver(2);
        Sender.send(x, Sender.end(1), Sender.row(1, 1, "abc"), Sender.header(1, 0xFF, 0, 0, 1, 0, "roll"));
        Check.due("completed", x.count(5), 0);
        Check.due("rolls", x.look(0, 8, 0), 'r');
        Sender.send(x, Sender.header(1, 0x00), Sender.end(1), Sender.row(1, 1, "abc"), Sender.end(1));
        Check.due("rows without a page", x.look(1, 0, 0), 32);
        Check.due("completed once", x.count(5), 1);
    }

    private static void headerTakesWhatIsKept() {
        for (int s = 0; s < 16; s++) {
            PageReceiver x = new PageReceiver(2);
            int[] overlays = Sender.overlays(1, Sender.triplet(42, 4, 0), Sender.triplet(3, 16, 65));
            Sender.send(x, Sender.header(1, 0x00, 1, 0, 0, 2, "old head"), Sender.row(1, 1, "row one"), overlays);
            Sender.send(x, Sender.links(1, 1, 2, 3, 4, 5, 6, 7, 8, 9, 10, 11, 12));
            Sender.send(x, Sender.header(1, 0x00, 6, s, 0, 3, "new "), Sender.row(1, 3, "row three"));
            Check.due("as it was kept before", x.look(3, 0, 0), 32);
            Sender.send(x, Sender.end(1));
            boolean old = s < 8;
            Check.due(s + ": row 1", x.look(1, 0, 0), old ? 'r' : 32);
            Check.due(s + ": overlay", x.look(2, 3, 0), old ? 256 + 65 : 32);
            Check.due(s + ": link 0", x.kept(0, 4), old ? 0x221 : -1);
            Check.due(s + ": link 3", x.kept(0, 7), old ? 256 * 5 + 16 * 11 + 10 : -1);
            Check.due(s + ": row 0", x.look(0, 8, 0), 'n');
            Check.due(s + ": a space is a letter", x.look(0, 12, 0), 32);
            Check.due(s + ": row 3", x.look(3, 4, 0), 't');
            Check.due(s + ": subcode", x.kept(0, 1), 6);
            Check.due(s + ": set", x.kept(0, 2), 3);
            Check.due(s + ": same place", x.kept(1, 0), -1);
        }
        PageReceiver y = new PageReceiver(2);
        Sender.send(y, Sender.header(1, 0x01), Sender.row(1, 1, "abc"), Sender.header(1, 0x00), Sender.end(1));
        Check.due("nothing of another page", y.look(1, 0, 0), 32);
    }

    private static void rollingRow() {
        PageReceiver x = new PageReceiver(1);
        for (int t = 0; t < 16; t++) {
            String text = String.valueOf((char) ('a' + t));
            boolean rolls = t / 2 % 2 == 0;
            int before = x.look(0, 8, 0);
            Sender.send(x, Sender.header(5, 0x10, 0, 0, t, 0, text));
            Check.due("t " + t, x.look(0, 8, 0), rolls ? 'a' + t : before);
        }
        int[] wrongLetter = Sender.with(Sender.header(5, 0xFF, 0, 0, 0, 0, "xyz"), 11, 0);
        Sender.send(x, Sender.header(5, 0xFF, 0, 0, 0, 0, "123"), wrongLetter);
        Check.due("a letter", x.look(0, 8, 0), 'x');
        Check.due("a wrong one stays", x.look(0, 9, 0), '2');
        Check.due("another letter", x.look(0, 10, 0), 'z');
        Sender.send(x, Sender.header(5, 0x10), Sender.row(5, 1, "abc"));
        Check.due("other rows are spaces", x.look(1, 0, 0), 32);
    }

    private static void rowsOfLetters() {
        PageReceiver x = new PageReceiver(1);
        Sender.send(x, Sender.header(1, 0x00), Sender.header(2, 0x00));
        for (int row = 1; row <= 7; row++) {
            Sender.send(x, Sender.row(1, row, (char) ('0' + row) + "bcdefghijklmnopqrst"));
            Sender.send(x, Sender.row(2, row, "another magazine row"));
        }
        Sender.send(x, Sender.end(1));
        for (int row = 1; row <= 7; row++) {
            Check.due("row " + row, x.look(row, 0, 0), '0' + row);
            for (int column = 1; column < 20; column++) {
                Check.due(row + ", " + column, x.look(row, column, 0), 'a' + column);
            }
        }
    }

    private static void wrongLettersStay() {
        PageReceiver x = new PageReceiver(1);
        Sender.send(x, Sender.header(1, 0x00, 0, 0, 0, 0, "abcd"), Sender.row(1, 4, "abcdefghijklmnopqrst"));
        int[] head = Sender.with(Sender.header(1, 0x00, 0, 0, 0, 0, "ABCD"), 11, Sender.letterByte('B') ^ 1);
        int[] row = Sender.with(Sender.row(1, 4, "ABCDEFGHIJKLMNOPQRST"), 2, Sender.letterByte('A') ^ 128);
        Sender.send(x, head, Sender.with(row, 21, 0), Sender.end(1));
        Check.due("head taken", x.look(0, 8, 0), 'A');
        Check.due("head stays", x.look(0, 9, 0), 'b');
        Check.due("row stays", x.look(4, 0, 0), 'a');
        Check.due("row taken", x.look(4, 1, 0), 'B');
        Check.due("last stays", x.look(4, 19, 0), 't');
        Check.due("wrong", x.count(4), 3);
        for (int value = 0; value < 256; value++) {
            boolean odd = Integer.bitCount(value) % 2 == 1;
            PageReceiver z = new PageReceiver(1);
            Sender.send(z, Sender.with(Sender.header(1, 0x00), 19, value), Sender.end(1));
            Check.due("wrong byte " + value, z.count(4), odd ? 0 : 1);
            int letter = value & 127;
            Check.due("byte " + value, z.look(0, 17, 0), odd && letter >= 32 ? letter : 32);
        }
    }

    private static void otherRowsDoNothing() {
        PageReceiver x = new PageReceiver(1);
        Sender.send(x, Sender.header(1, 0x00));
        for (int row = 8; row < 32; row++) {
            if (row != 26 && row != 27) {
                Sender.send(x, Sender.row(1, row, "abcdefghijklmnopqrst"));
            }
        }
        Sender.send(x, Sender.end(1));
        Check.due("packets", x.count(0), 24);
        Check.due("dropped", x.count(1), 0);
        for (int row = 1; row < 8; row++) {
            Check.due("row " + row, x.look(row, 0, 0), 32);
        }
        for (int k = 4; k <= 7; k++) {
            Check.due("link " + k, x.kept(0, k), -1);
        }
    }

    private static void lostAddress() {
        for (int at = 0; at < 2; at++) {
            PageReceiver x = new PageReceiver(1);
            Sender.send(x, Sender.header(1, 0x00, 0, 0, 0, 0, "old"));
            Sender.send(x, Sender.with(Sender.row(1, 1, "abc"), at, Sender.lostNibble()));
            Sender.send(x, Sender.with(Sender.header(1, 0x01, 0, 0, 0, 0, "new"), at, Sender.lostNibble()));
            Check.due("dropped", x.count(1), 2);
            Check.due("completed", x.count(5), 0);
            Check.due("rolling row", x.look(0, 8, 0), 'o');
            Sender.send(x, Sender.end(1));
            Check.due("row", x.look(1, 0, 0), 32);
            Check.due("number", x.kept(0, 0), 256);
        }
    }

    private static void lostHeader() {
        for (int at = 2; at < 8; at++) {
            PageReceiver x = new PageReceiver(2);
            Sender.send(x, Sender.header(1, 0x00, 1, 0, 0, 1, "old"));
            Sender.send(x, Sender.with(Sender.header(1, 0x01, 2, 0, 0, 2, "new"), at, Sender.lostNibble()));
            Check.due(at + " lost: dropped", x.count(1), 1);
            Check.due(at + " lost: completed", x.count(5), 0);
            Check.due(at + " lost: rolling row", x.look(0, 8, 0), 'o');
            Sender.send(x, Sender.row(1, 1, "abc"), Sender.end(1));
            Check.due(at + " lost: number", x.kept(0, 0), 256);
            Check.due(at + " lost: still coming", x.look(1, 0, 0), 'a');
            Check.due(at + " lost: subcode", x.kept(0, 1), 1);
        }
        PageReceiver y = new PageReceiver(2);
        int[] packet = Sender.with(Sender.header(1, 0x00), 8, 3);
        Sender.send(y, Sender.with(packet, 9, 3));
        Check.due("b8 and b9 tell nothing", y.count(1) + y.count(2) + y.count(3) + y.count(4), 0);
    }
}
