/** The section Terms at its edges: the rows 1 to 7, 26 and 27, and all others. */
public final class EdgesRowsTest {
    private static final String ALPHABET = "abcdefghijklmnopqrst";

    private EdgesRowsTest() {
    }

    public static void main(String[] args) {
        rowsOneToSeven();
        firstAndLastLetter();
        wrongLetters();
        rowsOfItsMagazine();
        sixTriplets();
        activeRowAtFirst();
        lostTriplets();
        activeRows();
        noActiveRows();
        columnsBelowTwenty();
        modeFifteen();
        modesFromSixteen();
        otherModes();
        laterOverlays();
        linksByTheirNibbles();
        magazineOfALink();
        lostNibbleOfALink();
        linksOfTheComingPage();
        otherRows();
        rowsWithoutAPage();
        Check.finish();
    }

    private static void rowsOneToSeven() {
        Check.sentence("ROWS 1 .. 7: of the page that is coming in the magazine, if there is one");
        for (int row : new int[] {1, 2, 6, 7, 8}) {
            PageReceiver x = Sender.receiving(Sender.row(1, row, ALPHABET));
            for (int seen = 0; seen < 8; seen++) {
                Check.due("row " + row + " in " + seen, x.look(seen, 10, 0), seen == row ? 'k' : 32);
            }
        }
    }

    private static void firstAndLastLetter() {
        Check.sentence("each of b2 .. b21 that is a letter becomes letter 0 .. 19 of that row.");
        for (int row = 1; row < 8; row++) {
            PageReceiver x = Sender.receiving(Sender.row(1, row, ALPHABET));
            for (int column = 0; column < 20; column++) {
                Check.due("row " + row + ", letter " + column, x.look(row, column, 0), 'a' + column);
            }
        }
    }

    private static void wrongLetters() {
        Check.sentence("each of b2 .. b21 that is a letter");
        for (int at = 2; at < 22; at++) {
            int[] next = Sender.with(Sender.row(1, 3, ALPHABET.toUpperCase()), at, 0xFF);
            PageReceiver x = Sender.receiving(Sender.row(1, 3, ALPHABET), next);
            for (int column = 0; column < 20; column++) {
                Check.due("b" + at + " wrong: letter " + column, x.look(3, column, 0),
                    (column == at - 2 ? 'a' : 'A') + column);
            }
        }
    }

    private static void rowsOfItsMagazine() {
        Check.sentence("of the page that is coming in the magazine");
        PageReceiver x = new PageReceiver(2);
        Sender.send(x, Sender.header(1, 0x00), Sender.header(2, 0x00), Sender.row(1, 1, "one"));
        Sender.send(x, Sender.row(2, 1, "two"), Sender.row(3, 1, "three"), Sender.end(1), Sender.end(2));
        Check.due("magazine 1", x.look(1, 0, 0), 'o');
        Sender.keys(x, 2, 0, 0);
        Check.due("magazine 2", x.look(1, 0, 0), 't');
        Check.due("not that of magazine 3", x.look(1, 1, 0), 'w');
    }

    private static PageReceiver withTriplets(int... triplets) {
        return Sender.receiving(Sender.overlays(1, triplets));
    }

    private static void sixTriplets() {
        Check.sentence("ROW 26: six triplets, from b2 on, in their order, for the page that is coming");
        PageReceiver x = withTriplets(Sender.triplet(10, 15, 0), Sender.triplet(11, 15, 1), Sender.triplet(12, 15, 2),
            Sender.triplet(13, 15, 3), Sender.triplet(14, 15, 4), Sender.triplet(15, 15, 5));
        for (int i = 0; i < 6; i++) {
            Check.due("triplet " + i, x.look(0, 10 + i, 0), 128 + i);
        }
        PageReceiver y = withTriplets(Sender.triplet(9, 15, 1), Sender.triplet(9, 15, 2), Sender.triplet(41, 4, 0),
            Sender.triplet(9, 15, 3), Sender.triplet(42, 4, 0), Sender.triplet(9, 15, 4));
        Check.due("the second one in row 0", y.look(0, 9, 0), 130);
        Check.due("the fourth one in row 1", y.look(1, 9, 0), 131);
        Check.due("the sixth one in row 2", y.look(2, 9, 0), 132);
    }

    /** As the document is read here, each packet of row 26 has an active row of its own. */
    private static void activeRowAtFirst() {
        Check.sentence("there is an ACTIVE row, at first 0.");
        PageReceiver x = Sender.receiving(Sender.overlays(1, Sender.triplet(19, 15, 1), Sender.triplet(47, 4, 0)),
            Sender.overlays(1, Sender.triplet(18, 15, 2)));
        Check.due("in the first packet", x.look(0, 19, 0), 129);
        Check.due("in the second packet", x.look(0, 18, 0), 130);
        Check.due("not in row 7", x.look(7, 18, 0), 32);
    }

    private static void lostTriplets() {
        Check.sentence("A lost one does nothing.");
        PageReceiver x = withTriplets(Sender.triplet(41, 4, 0), Sender.triplet(42, 4, 0) ^ 3,
            Sender.triplet(3, 16, 1) ^ 5, Sender.triplet(4, 16, 1));
        Check.due("the active row stays", x.look(1, 4, 0), 257);
        Check.due("no overlay", x.look(1, 3, 0), 32);
        Check.due("no other row", x.look(2, 4, 0), 32);
        Check.due("the packet is not dropped", x.count(1), 0);
    }

    private static void activeRows() {
        Check.sentence("Address 40 to 47 and mode 4: the active row is address - 40.");
        for (int row = 0; row < 8; row++) {
            for (int before = 0; before < 8; before++) {
                PageReceiver x = withTriplets(Sender.triplet(40 + before, 4, 0), Sender.triplet(40 + row, 4, 127),
                    Sender.triplet(19, 15, 1));
                for (int seen = 0; seen < 8; seen++) {
                    Check.due("active " + row + " in " + seen, x.look(seen, 19, 0), seen == row ? 129 : 32);
                }
            }
        }
    }

    /** An overlay behind this triplet, which stands behind one that makes row 3 the active one. */
    private static PageReceiver overlaidBehind(int triplet) {
        return withTriplets(Sender.triplet(43, 4, 0), triplet, Sender.triplet(9, 15, 1));
    }

    private static void noActiveRows() {
        Check.sentence("Address 40 to 47 and mode 4");
        for (int address : new int[] {20, 39, 48, 49, 56, 63}) {
            PageReceiver x = overlaidBehind(Sender.triplet(address, 4, 0));
            Check.due("address " + address, x.look(3, 9, 0), 129);
        }
        for (int mode = 0; mode < 32; mode++) {
            PageReceiver x = overlaidBehind(Sender.triplet(45, mode, 0));
            Check.due("mode " + mode, x.look(mode == 4 ? 5 : 3, 9, 0), 129);
            Check.due("mode " + mode + ", the other row", x.look(mode == 4 ? 3 : 5, 9, 0), 32);
        }
    }

    private static void columnsBelowTwenty() {
        Check.sentence("Address below 20, in the active row");
        for (int mode : new int[] {15, 16, 31}) {
            for (int address = 0; address < 64; address++) {
                PageReceiver x = withTriplets(Sender.triplet(43, 4, 0), Sender.triplet(address, mode, 1));
                int due = mode == 15 ? 129 : mode == 16 ? 257 : 4097;
                for (int column = 0; column < 20; column++) {
                    int seen = x.look(3, column, 0);
                    Check.due("address " + address + ", column " + column, seen, column == address ? due : 32);
                }
                Check.due("address " + address + ", row below", x.look(4, 0, 0), 32);
            }
        }
    }

    private static void modeFifteen() {
        Check.sentence("mode 15: the overlay is data + 128");
        for (int data : new int[] {0, 1, 64, 126, 127}) {
            Check.due("data " + data, withTriplets(Sender.triplet(9, 15, data)).look(0, 9, 0), 128 + data);
        }
    }

    private static void modesFromSixteen() {
        Check.sentence("16 to 31: data + 256 * (mode - 15).");
        for (int mode = 16; mode < 32; mode++) {
            for (int data : new int[] {0, 1, 127}) {
                Check.due("mode " + mode + ", data " + data, withTriplets(Sender.triplet(9, mode, data)).look(0, 9, 0),
                    data + 256 * (mode - 15));
            }
        }
    }

    private static void otherModes() {
        Check.sentence("Others do nothing.");
        for (int mode = 0; mode < 15; mode++) {
            for (int address : new int[] {0, 8, 19, 20, 39, 63}) {
                PageReceiver x = withTriplets(Sender.triplet(address, mode, 1), Sender.triplet(address, mode, 127));
                Receivers.same("address " + address + ", mode " + mode, x, Sender.receiving());
            }
        }
    }

    private static void laterOverlays() {
        Check.sentence("the overlay is data");
        PageReceiver x = Sender.receiving(
            Sender.overlays(1, Sender.triplet(9, 31, 127), Sender.triplet(9, 15, 1), Sender.triplet(10, 15, 1)),
            Sender.overlays(1, Sender.triplet(10, 16, 2)), Sender.row(1, 1, ALPHABET));
        Check.due("the later one of a packet", x.look(0, 9, 0), 129);
        Check.due("that of the later packet", x.look(0, 10, 0), 258);
        Check.due("no overlay in the row of letters", x.look(1, 9, 0), 'j');
    }

    private static void linksByTheirNibbles() {
        Check.sentence("ROW 27: links: for k = 0 .. 3 the nibbles of b(2 + 3k), b(3 + 3k), b(4 + 3k): units, tens, m: "
            + "link k is the page 256 * ((magazine xor m) modulo 8) + 16 * tens + units");
        PageReceiver x = Sender.receiving(Sender.links(1, 0, 0, 0, 15, 15, 15, 1, 2, 3, 14, 13, 8));
        Check.due("link 0", x.kept(0, 4), 0x100);
        Check.due("link 1", x.kept(0, 5), 0x6FF);
        Check.due("link 2", x.kept(0, 6), 0x221);
        Check.due("link 3", x.kept(0, 7), 0x1DE);
    }

    private static void magazineOfALink() {
        Check.sentence("(magazine xor m) modulo 8");
        for (int magazine = 0; magazine < 8; magazine++) {
            for (int m = 0; m < 16; m++) {
                PageReceiver x = new PageReceiver(1);
                Sender.send(x, Sender.header(magazine, 0x00), Sender.links(magazine, 1, 2, m), Sender.end(magazine));
                Check.due(magazine + " xor " + m, x.kept(0, 4), 256 * (magazine ^ m & 7) + 0x21);
            }
        }
    }

    private static void lostNibbleOfALink() {
        Check.sentence("with a nibble lost, it stays.");
        int[] old = Sender.links(1, 1, 1, 0, 2, 2, 0, 3, 3, 0, 4, 4, 0);
        int[] next = Sender.links(1, 5, 5, 0, 6, 6, 0, 7, 7, 0, 8, 8, 0);
        for (int at = 2; at < 14; at++) {
            PageReceiver x = Sender.receiving(old, Sender.with(next, at, Sender.lostNibble()));
            PageReceiver y = Sender.receiving(Sender.with(next, at, Sender.lostNibble()));
            for (int k = 0; k < 4; k++) {
                boolean lost = k == (at - 2) / 3;
                Check.due("b" + at + ": link " + k, x.kept(0, 4 + k), 256 + 17 * (lost ? k + 1 : k + 5));
                Check.due("b" + at + ": link " + k + " alone", y.kept(0, 4 + k), lost ? -1 : 256 + 17 * (k + 5));
            }
            Check.due("b" + at + ": dropped", x.count(1), 0);
        }
    }

    private static void linksOfTheComingPage() {
        Check.sentence("(For the page that is coming.)");
        PageReceiver x = new PageReceiver(2);
        Sender.send(x, Sender.header(1, 0x00), Sender.header(2, 0x00), Sender.links(2, 1, 1, 0), Sender.end(1));
        Check.due("not of another magazine's", x.kept(0, 4), -1);
        Sender.send(x, Sender.end(2));
        Check.due("of its magazine's", x.kept(1, 4), 0x211);
        Sender.send(x, Sender.links(2, 2, 2, 0), Sender.overlays(2, Sender.triplet(9, 15, 1)));
        Check.due("not of the kept one", x.kept(1, 4), 0x211);
        Sender.keys(x, 2, 0, 0);
        Check.due("nor its overlays", x.look(0, 9, 0), 32);
    }

    private static void otherRows() {
        Check.sentence("OTHER ROWS");
        for (int row = 8; row < 32; row++) {
            if (row != 26 && row != 27) {
                int[] letters = Sender.row(1, row, ALPHABET);
                int[] triplets = Sender.overlays(1, Sender.triplet(9, 15, 1));
                triplets[0] = letters[0];
                triplets[1] = letters[1];
                PageReceiver x = Sender.receiving(letters, triplets);
                Check.due("row " + row + ": packets", x.count(0), 4);
                Check.due("row " + row + ": dropped", x.count(1), 0);
                Receivers.same("row " + row, x, Sender.receiving());
            }
        }
    }

    private static void rowsWithoutAPage() {
        Check.sentence("and rows 1 to 27 without a page that is coming, do nothing more.");
        for (int row = 1; row < 32; row++) {
            PageReceiver x = Sender.receiving();
            Sender.send(x, Sender.row(1, row, ALPHABET), Sender.row(2, row, ALPHABET), Sender.end(1), Sender.end(2));
            Check.due("row " + row + ": dropped", x.count(1), 0);
            Check.due("row " + row + ": completed", x.count(5), 1);
            Receivers.same("row " + row, x, Sender.receiving());
        }
    }
}
