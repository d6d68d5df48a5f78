/** The section Terms at its edges: a page, and what a header does. */
public final class EdgesHeaderTest {
    private EdgesHeaderTest() {
    }

    public static void main(String[] args) {
        newPageIsEmpty();
        newPageBehindAFullOne();
        newPageHasNoLinks();
        numbers();
        onePageAMagazine();
        headerNibbles();
        lostNibbleDrops();
        evenCompletesItsOwn();
        oddCompletesAll();
        oddWithNothingComing();
        fifteenAndFifteenIsNoPage();
        letterOfNoPageChangesNoPage();
        takesWhatIsKeptBelowEight();
        newFromEightOn();
        newWhenNoneIsKept();
        newWhenItGaveWayJustNow();
        takesWhatItCompletedItself();
        keptPageStaysUntilCompleted();
        setAndSubcode();
        lettersOfRowZero();
        rollingRowByT();
        rollingRowWithoutAPage();
        rollingRowAtFirst();
        Check.finish();
    }

    private static int[] allWrong(int[] packet, int from) {
        int[] changed = packet.clone();
        for (int i = from; i < 22; i++) {
            changed[i] = 0;
        }
        return changed;
    }

    private static void everyLetterIsASpace(String name, PageReceiver x) {
        for (int cell = 8; cell < 160; cell++) {
            Check.due(name + ": " + cell / 20 + ", " + cell % 20, x.look(cell / 20, cell % 20, 0), 32);
        }
    }

    /** A header of wrong letters alone leaves the letters that a new page has. */
    private static void newPageIsEmpty() {
        Check.sentence("A PAGE has 8 rows (0 .. 7) of 20 LETTERS each, at first 32; for each of these an OVERLAY, "
            + "at first none (0); a SET 0 .. 7; four LINKS, at first none.");
        PageReceiver x = new PageReceiver(1);
        Sender.send(x, allWrong(Sender.header(1, 0x00), 10), Sender.end(1));
        Check.due("shown", x.shown(), 256);
        everyLetterIsASpace("new page", x);
    }

    private static int[][] fullPage(int magazine) {
        int[][] packets = new int[16][];
        for (int row = 1; row < 8; row++) {
            packets[2 * row] = Sender.row(magazine, row, "abcdefghijklmnopqrst");
            packets[2 * row + 1] = Sender.overlays(magazine, Sender.triplet(40 + row, 4, 0),
                Sender.triplet(0, 16, row), Sender.triplet(19, 16, row));
        }
        packets[0] = Sender.overlays(magazine, Sender.triplet(8, 16, 1), Sender.triplet(19, 16, 1));
        packets[1] = Sender.links(magazine, 1, 1, 1, 2, 2, 2, 3, 3, 3, 4, 4, 4);
        return packets;
    }

    /** Neither the page before in this magazine nor the one that gives way leaves anything behind. */
    private static void newPageBehindAFullOne() {
        Check.sentence("otherwise with those of a new one.");
        PageReceiver x = new PageReceiver(1);
        Sender.send(x, Sender.header(1, 0x01, 5, 0, 0, 5, "abcdefghijkl"));
        Sender.send(x, fullPage(1));
        Sender.send(x, allWrong(Sender.header(1, 0x00), 10), Sender.end(1));
        everyLetterIsASpace("behind a full page", x);
        for (int what = 4; what <= 7; what++) {
            Check.due("link " + (what - 4), x.kept(0, what), -1);
        }
    }

    private static void newPageHasNoLinks() {
        Check.sentence("four LINKS, at first none.");
        PageReceiver x = Sender.receiving();
        for (int what = 4; what <= 7; what++) {
            Check.due("link " + (what - 4), x.kept(0, what), -1);
            Check.due("key " + (6 + what), x.key(6 + what), false);
        }
    }

    private static void numbers() {
        Check.sentence("Its NUMBER is 256 * magazine + 16 * tens + units.");
        for (int magazine = 0; magazine < 8; magazine++) {
            for (int page : new int[] {0x00, 0x01, 0x0F, 0x10, 0x99, 0xF0, 0xFE, 0xEF}) {
                PageReceiver x = new PageReceiver(1);
                Sender.keep(x, magazine, page);
                Check.due("number", x.kept(0, 0), 256 * magazine + page);
            }
        }
    }

    private static void onePageAMagazine() {
        Check.sentence("In each magazine at most one page is COMING.");
        PageReceiver x = new PageReceiver(4);
        for (int magazine = 0; magazine < 8; magazine++) {
            Sender.send(x, Sender.header(magazine, 0x00));
        }
        Check.due("eight are coming, none is completed", x.count(5), 0);
        Sender.send(x, Sender.header(1, 0x01), Sender.row(1, 1, "abc"), Sender.end(1));
        Check.due("the one before and the one behind", x.count(5), 2);
        Check.due("the one before has no row", x.look(1, 0, 0), 32);
        Sender.keys(x, 1, 0, 1);
        Check.due("the one behind has it", x.look(1, 0, 0), 'a');
        Sender.send(x, Sender.header(1, 0xFF, 0, 0, 1, 0, ""));
        Check.due("and the seven others", x.count(5), 9);
    }

    private static void headerNibbles() {
        Check.sentence("ROW 0, the HEADER: nibbles of b2 .. b7: units; tens; c; s; t; g.");
        int[] packet = Sender.row(1, 0, "");
        int[] nibbles = {3, 9, 12, 8, 3, 6};
        for (int i = 0; i < 6; i++) {
            packet[2 + i] = Sender.codeWord(nibbles[i]);
        }
        PageReceiver x = new PageReceiver(4);
        Sender.send(x, Sender.header(1, 0x93), Sender.row(1, 1, "old"), Sender.header(2, 0x00));
        Sender.send(x, Sender.header(5, 0xFF, 0, 0, 0, 0, "rolls"), packet);
        Check.due("t completes all", x.count(5), 2);
        Check.due("t does not roll", x.look(0, 8, 0), 'r');
        Sender.send(x, Sender.end(1));
        Check.due("tens and units", x.kept(0, 0), 0x193);
        Check.due("c", x.kept(0, 1), 12);
        Check.due("g", x.kept(0, 2), 6);
        Sender.keys(x, 1, 9, 3);
        Check.due("s", x.look(1, 0, 0), 32);
    }

    private static void lostNibbleDrops() {
        Check.sentence("One of them lost: the packet is dropped.");
        for (int at = 2; at < 8; at++) {
            PageReceiver x = new PageReceiver(2);
            Sender.send(x, Sender.header(1, 0x00, 1, 0, 0, 1, "old"), Sender.header(2, 0x00));
            Sender.send(x, Sender.with(Sender.header(1, 0x01, 2, 8, 1, 2, "new"), at, Sender.lostNibble()));
            Check.due("b" + at + ": dropped", x.count(1), 1);
            Check.due("b" + at + ": completed", x.count(5), 0);
            Check.due("b" + at + ": rolling row", x.look(0, 8, 0), 32);
            Sender.send(x, Sender.row(1, 1, "abc"), Sender.end(1));
            Check.due("b" + at + ": still coming", x.kept(0, 0), 256);
            Check.due("b" + at + ": its letter", x.look(0, 8, 0), 'o');
            Check.due("b" + at + ": its row", x.look(1, 0, 0), 'a');
            Check.due("b" + at + ": its subcode", x.kept(0, 1), 1);
            Check.due("b" + at + ": its set", x.kept(0, 2), 1);
        }
    }

    private static void evenCompletesItsOwn() {
        Check.sentence("If t is odd, the pages coming in all magazines (0 first) are COMPLETED, "
            + "otherwise that coming in its own.");
        for (int t = 0; t < 16; t += 2) {
            PageReceiver x = new PageReceiver(4);
            Sender.send(x, Sender.header(0, 0x10), Sender.header(3, 0x13), Sender.header(7, 0x17));
            Sender.send(x, Sender.header(3, 0x14, 0, 0, t, 0, ""));
            Check.due("t " + t + ": completed", x.count(5), 1);
            Check.due("t " + t + ": its own", x.kept(0, 0), 0x313);
        }
    }

    private static void oddCompletesAll() {
        Check.sentence("the pages coming in all magazines (0 first) are COMPLETED");
        for (int t = 1; t < 16; t += 2) {
            PageReceiver x = new PageReceiver(4);
            Sender.send(x, Sender.header(7, 0x17), Sender.header(3, 0x13), Sender.header(0, 0x10));
            Sender.send(x, Sender.header(3, 0x14, 0, 0, t, 0, ""));
            Check.due("t " + t + ": the header before and all", x.count(5), 3);
            Check.due("t " + t + ": magazine 0 first", x.kept(0, 0), 0x010);
            Check.due("t " + t + ": then 3", x.kept(1, 0), 0x313);
            Check.due("t " + t + ": then 7", x.kept(2, 0), 0x717);
            Sender.send(x, Sender.header(3, 0xFF, 0, 0, t, 0, ""));
            Check.due("t " + t + ": then its new one alone", x.count(5), 4);
            Check.due("t " + t + ": its number", x.kept(3, 0), 0x314);
        }
    }

    private static void oddWithNothingComing() {
        Check.sentence("If t is odd, the pages coming in all magazines");
        PageReceiver x = new PageReceiver(4);
        Sender.send(x, Sender.header(2, 0xFF, 0, 0, 1, 0, ""), Sender.header(2, 0x22, 0, 0, 1, 0, ""));
        Check.due("none was coming", x.count(5), 0);
        Check.due("none is kept", x.kept(0, 0), -1);
    }

    private static void fifteenAndFifteenIsNoPage() {
        Check.sentence("unless tens and units are 15, a page with this number is coming there");
        for (int magazine = 0; magazine < 8; magazine++) {
            PageReceiver x = new PageReceiver(4);
            Sender.send(x, Sender.end(magazine), Sender.end(magazine));
            Check.due("15 and 15", x.count(5), 0);
            Sender.keep(x, magazine, 0xFE);
            Sender.keep(x, magazine, 0xEF);
            Check.due("15 and 14", x.kept(0, 0), 256 * magazine + 0xFE);
            Check.due("14 and 15", x.kept(1, 0), 256 * magazine + 0xEF);
        }
    }

    private static void letterOfNoPageChangesNoPage() {
        Check.sentence("Then each of b10 .. b21 that is a letter becomes letter 8 .. 19 of its row 0");
        PageReceiver x = new PageReceiver(2);
        Sender.send(x, Sender.header(1, 0x00, 0, 0, 0, 0, "abc"), Sender.header(1, 0xFF, 0, 0, 0, 0, "xyz"));
        Check.due("the page that it completed", x.look(0, 8, 0), 'a');
        Sender.send(x, Sender.header(1, 0xFF, 0, 0, 0, 0, "xyz"));
        Check.due("the kept page", x.look(0, 8, 0), 'a');
    }

    /** Page 100 has come once, with a letter, an overlay and a link; now it comes again. */
    private static PageReceiver comingAgain(int s) {
        PageReceiver x = new PageReceiver(2);
        Sender.send(x, Sender.header(1, 0x00, 1, 0, 0, 1, "abc"), Sender.row(1, 1, "old"));
        Sender.send(x, Sender.overlays(1, Sender.triplet(47, 4, 0), Sender.triplet(19, 16, 1)));
        Sender.send(x, Sender.links(1, 1, 1, 0, 2, 2, 0, 3, 3, 0, 4, 4, 0), Sender.end(1));
        Sender.send(x, allWrong(Sender.header(1, 0x00, 2, s, 0, 2, ""), 10), Sender.end(1));
        return x;
    }

    private static void cameAgain(int s, boolean old) {
        PageReceiver x = comingAgain(s);
        Check.due("s " + s + ": completed", x.count(5), 2);
        Check.due("s " + s + ": letter of row 0", x.look(0, 8, 0), old ? 'a' : 32);
        Check.due("s " + s + ": letter of row 1", x.look(1, 0, 0), old ? 'o' : 32);
        Check.due("s " + s + ": overlay", x.look(7, 19, 0), old ? 257 : 32);
        Check.due("s " + s + ": first link", x.kept(0, 4), old ? 0x111 : -1);
        Check.due("s " + s + ": last link", x.kept(0, 7), old ? 0x144 : -1);
        Check.due("s " + s + ": subcode", x.kept(0, 1), 2);
        Check.due("s " + s + ": set", x.kept(0, 2), 2);
    }

    private static void takesWhatIsKeptBelowEight() {
        Check.sentence("with the letters, overlays, set and links that the kept page with this number has, "
            + "if there is one and s is below 8");
        for (int s = 0; s < 8; s++) {
            cameAgain(s, true);
        }
    }

    private static void newFromEightOn() {
        Check.sentence("if there is one and s is below 8; otherwise with those of a new one.");
        for (int s = 8; s < 16; s++) {
            cameAgain(s, false);
        }
    }

    /** A page of another magazine or with other tens or units is not the page with this number. */
    private static void newWhenNoneIsKept() {
        Check.sentence("if there is one");
        for (int other : new int[] {0x200, 0x010, 0x101, 0x110}) {
            PageReceiver x = new PageReceiver(2);
            Sender.send(x, Sender.header(other >> 8, other & 255), Sender.row(other >> 8, 1, "other"));
            Sender.send(x, Sender.end(other >> 8));
            Sender.keep(x, 1, 0x00);
            Check.due("nothing of " + other, x.look(1, 0, 0), 32);
        }
    }

    /** The header completes another page first, for which the page with its number gives way. */
    private static void newWhenItGaveWayJustNow() {
        Check.sentence("are COMPLETED, otherwise that coming in its own. Then");
        PageReceiver x = new PageReceiver(1);
        Sender.send(x, Sender.header(1, 0x00), Sender.row(1, 1, "old"), Sender.end(1), Sender.header(2, 0x00));
        Sender.send(x, Sender.header(1, 0x00, 0, 0, 1, 0, ""), Sender.end(1));
        Check.due("shown", x.shown(), 256);
        Check.due("it is a new one", x.look(1, 0, 0), 32);
    }

    private static void takesWhatItCompletedItself() {
        Check.sentence("Then, unless tens and units are 15, a page with this number is coming there: "
            + "with the letters, overlays, set and links that the kept page with this number has");
        PageReceiver x = new PageReceiver(1);
        Sender.send(x, Sender.header(1, 0x00), Sender.row(1, 1, "one"), Sender.header(1, 0x00));
        Sender.send(x, Sender.row(1, 2, "two"), Sender.end(1));
        Check.due("row 1 came with the first", x.look(1, 0, 0), 'o');
        Check.due("row 2 came with the second", x.look(2, 0, 0), 't');
    }

    private static void keptPageStaysUntilCompleted() {
        Check.sentence("a page with this number is coming there");
        PageReceiver x = Sender.receiving(Sender.row(1, 1, "old"));
        Sender.send(x, Sender.header(1, 0x00, 7, 0, 0, 7, "new"), Sender.row(1, 1, "new"));
        Sender.send(x, Sender.overlays(1, Sender.triplet(9, 16, 1)), Sender.links(1, 1, 1, 0));
        Receivers.same("not completed", x, Sender.receiving(Sender.row(1, 1, "old")));
        Sender.send(x, Sender.end(1));
        Check.due("completed", x.look(1, 0, 0), 'n');
    }

    private static void setAndSubcode() {
        Check.sentence("Its set is g modulo 8; its subcode c.");
        for (int d = 0; d < 16; d++) {
            PageReceiver x = new PageReceiver(1);
            Sender.send(x, Sender.header(1, 0x00, d, 0, 0, 15 - d, ""), Sender.end(1));
            Check.due("subcode " + d, x.kept(0, 1), d);
            Check.due("set of " + (15 - d), x.kept(0, 2), (15 - d) % 8);
        }
    }

    private static void lettersOfRowZero() {
        Check.sentence("each of b10 .. b21 that is a letter becomes letter 8 .. 19 of its row 0");
        int[] first = Sender.header(1, 0x00, 0, 0, 0, 0, "abcdefghijkl");
        for (int at = 8; at < 22; at++) {
            PageReceiver x = new PageReceiver(1);
            int[] second = Sender.with(Sender.header(1, 0x00, 0, 0, 0, 0, "ABCDEFGHIJKL"), at, 0);
            Sender.send(x, first, second, Sender.end(1));
            for (int column = 8; column < 20; column++) {
                int due = (column == at - 2 ? 'a' : 'A') + column - 8;
                Check.due("b" + at + " wrong: letter " + column, x.look(0, column, 0), due);
            }
            Check.due("b" + at + " wrong: wrong", x.count(4), at < 10 ? 0 : 1);
        }
    }

    private static void rollingRowByT() {
        Check.sentence("if t / 2 is even, each of these also becomes letter 8 .. 19 of the ROLLING row");
        for (int t = 0; t < 16; t++) {
            PageReceiver x = new PageReceiver(1);
            Sender.send(x, Sender.header(5, 0x10, 0, 0, 0, 0, "abcdefghijkl"));
            Sender.send(x, Sender.with(Sender.header(6, 0x10, 0, 0, t, 0, "ABCDEFGHIJKL"), 12, 0));
            boolean rolls = t == 0 || t == 1 || t == 4 || t == 5 || t == 8 || t == 9 || t == 12 || t == 13;
            Check.due("t " + t + ": letter 8", x.look(0, 8, 0), rolls ? 'A' : 'a');
            Check.due("t " + t + ": letter 19", x.look(0, 19, 0), rolls ? 'L' : 'l');
            Check.due("t " + t + ": a wrong letter", x.look(0, 10, 0), 'c');
            Check.due("t " + t + ": letter 7", x.look(0, 7, 0), 32);
        }
    }

    private static void rollingRowWithoutAPage() {
        Check.sentence("also when no page is coming.");
        PageReceiver x = new PageReceiver(1);
        Sender.send(x, Sender.header(5, 0xFF, 0, 0, 0, 0, "abcdefghijkl"));
        Check.due("letter 8", x.look(0, 8, 0), 'a');
        Check.due("letter 19", x.look(0, 19, 0), 'l');
        Sender.send(x, Sender.header(5, 0xFF, 0, 0, 2, 0, "ABCDEFGHIJKL"));
        Check.due("t 2", x.look(0, 8, 0), 'a');
    }

    private static void rollingRowAtFirst() {
        Check.sentence("the ROLLING row (20 letters, at first 32)");
        PageReceiver x = new PageReceiver(1);
        Sender.send(x, allWrong(Sender.header(5, 0x10), 10));
        for (int column = 8; column < 20; column++) {
            Cells.due("at first", x, 0, column, 32, 0);
        }
        Sender.send(x, allWrong(Sender.header(5, 0x10, 0, 0, 0, 0, "\u0017\u001e!"), 13));
        for (int column = 11; column < 20; column++) {
            Cells.due("a letter, no mark", x, 0, column, 32, 1);
        }
    }
}
