/** Promise 9 at its edges: what is looked at, and so counted. */
public final class EdgesCountTest {
    /** The code word of 0 with one bit turned round: a mended nibble, and a wrong letter. */
    private static final int SPOILT = 0x14;

    private EdgesCountTest() {
    }

    public static void main(String[] args) {
        packetsThatCame();
        packetsThatWereDropped();
        mendedAndLostNibbles();
        mendedAndLostTriplets();
        lostFirstByte();
        lostSecondByte();
        lostInAHeader();
        linksBehindALostNibble();
        tripletsBehindALostOne();
        rowsWithoutAPage();
        otherRows();
        wrongLettersOfARow();
        wrongLettersOfAHeader();
        wrongLettersWithoutAPage();
        bytesThatTellNothing();
        pagesCompleted();
        wrongWhat();
        Check.finish();
    }

    private static void counts(String name, PageReceiver x, int... due) {
        for (int what = 0; what < 6; what++) {
            Check.due(name + ": count " + what, x.count(what), due[what]);
        }
    }

    /** All bytes from one on to another, without that, are mended nibbles and wrong letters. */
    private static int[] spoilt(int[] packet, int from, int to) {
        int[] changed = packet.clone();
        for (int i = from; i < to; i++) {
            changed[i] = SPOILT;
        }
        return changed;
    }

    private static int[] lostAt(int[] packet, int at) {
        return Sender.with(packet, at, Sender.lostNibble());
    }

    private static PageReceiver sent(int[]... packets) {
        PageReceiver x = new PageReceiver(1);
        Sender.send(x, packets);
        return x;
    }

    private static void packetsThatCame() {
        Check.sentence("How many packets came (what = 0)");
        PageReceiver x = new PageReceiver(1);
        for (int i = 0; i < 21; i++) {
            x.feed(0, 1);
        }
        counts("21 bytes", x, 0, 0, 0, 0, 0, 0);
        x.reset();
        counts("thrown away", x, 0, 0, 0, 0, 0, 0);
        Sender.send(x, Sender.header(1, 0x00), Sender.row(1, 1, "abc"), Sender.row(1, 30, "abc"));
        Sender.send(x, Sender.row(2, 1, "abc"));
        counts("of all kinds", x, 4, 0, 0, 0, 0, 0);
        Sender.send(x, lostAt(Sender.header(1, 0x00), 0));
        counts("also when dropped", x, 5, 1, 0, 1, 0, 0);
    }

    private static void packetsThatWereDropped() {
        Check.sentence("were dropped (1)");
        for (int at = 0; at < 8; at++) {
            counts("b" + at, sent(lostAt(Sender.header(1, 0x00), at)), 1, 1, 0, 1, 0, 0);
        }
        int[] row = Sender.row(1, 1, "abc");
        counts("rows", sent(lostAt(row, 0), lostAt(row, 1)), 2, 2, 0, 2, 0, 0);
        PageReceiver x = sent(Sender.header(1, 0x00), lostAt(Sender.links(1, 1, 1, 1, 1, 1, 1, 1, 1, 1, 1, 1, 1), 2));
        counts("a link", x, 2, 0, 0, 1, 0, 0);
        Sender.send(x, Sender.overlays(1, Sender.triplet(0, 15, 0) ^ 3));
        counts("a triplet", x, 3, 0, 0, 2, 0, 0);
    }

    private static void mendedAndLostNibbles() {
        Check.sentence("how many nibbles and triplets were mended (2), how many were lost (3; "
            + "both counted as they are looked at, in the order of their bytes");
        int[] header = Sender.header(0, 0x00);
        for (int to = 0; to <= 8; to++) {
            counts("a header mended up to b" + to, sent(spoilt(header, 0, to)), 1, 0, to, 0, 0, 0);
        }
        int[] links = Sender.links(0, 0, 0, 0, 0, 0, 0, 0, 0, 0, 0, 0, 0);
        counts("all nibbles of links", sent(header, spoilt(links, 2, 14)), 2, 0, 12, 0, 0, 0);
    }

    private static void mendedAndLostTriplets() {
        Check.sentence("how many nibbles and triplets were mended (2), how many were lost (3");
        int good = Sender.triplet(9, 15, 1);
        int nothing = Sender.triplet(63, 31, 127);
        int[] header = Sender.header(1, 0x00);
        counts("six mended", sent(header, Sender.overlays(1, good ^ 1, good ^ 2, good ^ 4, nothing ^ 8, nothing ^ 16,
            good ^ 1 << 23)), 2, 0, 6, 0, 0, 0);
        counts("six lost", sent(header, Sender.overlays(1, good ^ 3, good ^ 5, good ^ 6, nothing ^ 3, nothing ^ 5,
            nothing ^ 6)), 2, 0, 0, 6, 0, 0);
        counts("six good", sent(header, Sender.overlays(1, good, good, good, nothing, nothing, nothing)),
            2, 0, 0, 0, 0, 0);
    }

    private static void lostFirstByte() {
        Check.sentence("nothing is looked at behind a lost one that drops its packet");
        counts("b0 lost", sent(lostAt(spoilt(Sender.header(0, 0x00), 1, 22), 0)), 1, 1, 0, 1, 0, 0);
        counts("both lost", sent(lostAt(lostAt(Sender.header(0, 0x00), 1), 0)), 1, 1, 0, 1, 0, 0);
    }

    private static void lostSecondByte() {
        Check.sentence("behind a lost one that drops its packet");
        counts("b1 lost", sent(lostAt(spoilt(Sender.header(0, 0x00), 0, 22), 1)), 1, 1, 1, 1, 0, 0);
    }

    private static void lostInAHeader() {
        Check.sentence("nothing is looked at behind a lost one");
        for (int at = 2; at < 8; at++) {
            int[] header = spoilt(Sender.header(0, 0x00), 0, 22);
            counts("b" + at + " lost", sent(lostAt(header, at)), 1, 1, at, 1, 0, 0);
            counts("b" + at + " and b7 lost", sent(lostAt(lostAt(header, 7), at)), 1, 1, at, 1, 0, 0);
        }
    }

    private static void linksBehindALostNibble() {
        Check.sentence("a lost one that drops its packet");
        int[] links = spoilt(Sender.links(0, 0, 0, 0, 0, 0, 0, 0, 0, 0, 0, 0, 0), 2, 14);
        for (int at = 2; at < 14; at++) {
            counts("b" + at + " lost", sent(Sender.header(0, 0x00), lostAt(links, at)), 2, 0, 11, 1, 0, 0);
        }
    }

    private static void tripletsBehindALostOne() {
        Check.sentence("both counted as they are looked at");
        int good = Sender.triplet(9, 15, 1);
        int[] packet = Sender.overlays(1, good ^ 3, good ^ 1, good ^ 3, good ^ 1, good ^ 3, good ^ 1);
        counts("every other one lost", sent(Sender.header(1, 0x00), packet), 2, 0, 3, 3, 0, 0);
    }

    /** The two nibbles of the address are looked at in every packet. */
    private static void rowsWithoutAPage() {
        Check.sentence("nor in rows 1 to 27 without a page that is coming");
        for (int row = 1; row <= 27; row++) {
            int[] packet = spoilt(Sender.packet(0, row), 2, 22);
            counts("row " + row, sent(packet), 1, 0, 0, 0, 0, 0);
            counts("row " + row + " of another magazine", sent(Sender.header(1, 0x00), packet), 2, 0, 0, 0, 0, 0);
            packet[0] ^= 1;
            packet[1] ^= 1;
            counts("row " + row + ", address mended", sent(packet), 1, 0, 2, 0, 0, 0);
        }
        int[] row = spoilt(Sender.packet(1, 1), 2, 22);
        counts("behind the end", sent(Sender.header(1, 0x00), Sender.end(1), row), 3, 0, 0, 0, 0, 1);
    }

    private static void otherRows() {
        Check.sentence("or in other rows)");
        for (int row = 8; row < 32; row++) {
            if (row != 26 && row != 27) {
                int[] packet = spoilt(Sender.packet(1, row), 2, 22);
                counts("row " + row, sent(Sender.header(1, 0x00), packet), 2, 0, 0, 0, 0, 0);
            }
        }
    }

    private static void wrongLettersOfARow() {
        Check.sentence("how many letters were wrong (4");
        for (int row = 1; row < 8; row++) {
            for (int to : new int[] {2, 3, 21, 22}) {
                PageReceiver x = sent(Sender.header(1, 0x00), spoilt(Sender.packet(1, row), 2, to));
                counts("row " + row + " up to b" + to, x, 2, 0, 0, 0, to - 2, 0);
            }
        }
    }

    private static void wrongLettersOfAHeader() {
        Check.sentence("in a header all of b10 to b21 are looked at");
        for (int at = 8; at < 22; at++) {
            int[] header = Sender.with(Sender.header(1, 0x00), at, SPOILT);
            counts("b" + at, sent(header), 1, 0, 0, 0, at < 10 ? 0 : 1, 0);
        }
        for (int t = 0; t < 16; t++) {
            int[] header = spoilt(Sender.header(1, 0x00, 0, 0, t, 0, ""), 8, 22);
            counts("t " + t, sent(header), 1, 0, 0, 0, 12, 0);
        }
    }

    private static void wrongLettersWithoutAPage() {
        Check.sentence("also when no page is coming)");
        for (int t = 0; t < 16; t++) {
            int[] header = spoilt(Sender.header(1, 0xFF, 0, 0, t, 0, ""), 8, 22);
            counts("t " + t, sent(header), 1, 0, 0, 0, 12, 0);
        }
    }

    private static void bytesThatTellNothing() {
        Check.sentence("both counted as they are looked at, in the order of their bytes");
        int[] header = Sender.header(1, 0x00);
        int[] links = Sender.links(1, 0, 0, 0, 0, 0, 0, 0, 0, 0, 0, 0, 0);
        counts("b8 and b9 of a header", sent(spoilt(header, 8, 10)), 1, 0, 0, 0, 0, 0);
        counts("b20 and b21 of row 26", sent(header, spoilt(Sender.overlays(1), 20, 22)), 2, 0, 0, 0, 0, 0);
        counts("b14 to b21 of row 27", sent(header, spoilt(links, 14, 22)), 2, 0, 0, 0, 0, 0);
    }

    private static void pagesCompleted() {
        Check.sentence("how many pages were completed (5)");
        PageReceiver x = sent(Sender.header(1, 0x00), Sender.header(2, 0x00));
        counts("coming", x, 2, 0, 0, 0, 0, 0);
        Sender.send(x, Sender.header(1, 0x00));
        counts("one", x, 3, 0, 0, 0, 0, 1);
        Sender.send(x, Sender.header(3, 0xFF, 0, 0, 1, 0, ""));
        counts("two more at once", x, 4, 0, 0, 0, 0, 3);
        Sender.send(x, Sender.header(3, 0xFF, 0, 0, 1, 0, ""));
        counts("none", x, 5, 0, 0, 0, 0, 3);
    }

    private static void wrongWhat() {
        Check.sentence("NONE for another what.");
        PageReceiver x = sent(Sender.header(1, 0x00), Sender.end(1));
        for (int what : new int[] {-1, 6, 7, -6, 64, 256, Integer.MIN_VALUE, Integer.MAX_VALUE}) {
            Check.due("count " + what, x.count(what), -1);
        }
    }
}
