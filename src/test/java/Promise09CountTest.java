/** Promise 9: what is counted, and what is looked at. */
public final class Promise09CountTest {
    private Promise09CountTest() {
    }

    public static void main(String[] args) {
        wrongWhats();
        lostAddresses();
        lostHeaders();
        headersWithoutAPage();
        rowsOfLetters();
        rowsWithoutAPage();
        otherRows();
        overlays();
        links();
        completed();
        Check.finish();
    }

    private static void counts(String name, PageReceiver x, int... due) {
        for (int what = 0; what < due.length; what++) {
            Check.due(name + ": count " + what, x.count(what), due[what]);
        }
    }

    /** From a byte on, bytes that are wrong letters, and mended nibbles: looking at one counts in either way. */
    private static int[] spoilt(int[] packet, int from) {
        return filled(packet, from, Sender.codeWord(0) ^ 1);
    }

    private static int[] filled(int[] packet, int from, int value) {
        int[] changed = packet.clone();
        for (int i = from; i < changed.length; i++) {
            changed[i] = value;
        }
        return changed;
    }

    private static int[] mended(int[] packet, int... places) {
        int[] changed = packet.clone();
        for (int at : places) {
            changed[at] ^= 1 << at % 8;
        }
        return changed;
    }

    private static void wrongWhats() {
        PageReceiver x = new PageReceiver(1);
        for (int what : new int[] {-1, 6, 7, Integer.MIN_VALUE, Integer.MAX_VALUE}) {
            Check.due("count " + what, x.count(what), -1);
        }
        counts("new", x, 0, 0, 0, 0, 0, 0);
        x.feed(0, 8);
        counts("no packet yet", x, 0, 0, 0, 0, 0, 0);
    }

    private static void lostAddresses() {
        PageReceiver x = new PageReceiver(1);
        Sender.send(x, Sender.with(spoilt(Sender.header(1, 0x00), 1), 0, Sender.lostNibble()));
        counts("b0 lost", x, 1, 1, 0, 1, 0, 0);
        int[] packet = mended(spoilt(Sender.header(1, 0x00), 2), 0);
        Sender.send(x, Sender.with(packet, 1, Sender.lostNibble()));
        counts("b1 lost", x, 2, 2, 1, 2, 0, 0);
        Sender.send(x, mended(Sender.with(Sender.header(1, 0x00), 0, Sender.lostNibble()), 1));
        counts("b1 is not looked at", x, 3, 3, 1, 3, 0, 0);
    }

    private static void lostHeaders() {
        for (int lost = 2; lost < 8; lost++) {
            PageReceiver x = new PageReceiver(1);
            int[] packet = mended(Sender.header(1, 0x00), 0, 1, 2, 3, 4, 5, 6, 7);
            Sender.send(x, spoilt(Sender.with(packet, lost, Sender.lostNibble()), 8));
            counts(lost + " lost", x, 1, 1, lost, 1, 0, 0);
        }
        PageReceiver y = new PageReceiver(1);
        Sender.send(y, mended(Sender.header(1, 0x00), 0, 1, 2, 3, 4, 5, 6, 7));
        counts("eight mended", y, 1, 0, 8, 0, 0, 0);
    }

    private static void headersWithoutAPage() {
        PageReceiver x = new PageReceiver(1);
        Sender.send(x, spoilt(Sender.end(1), 8));
        counts("all twelve wrong", x, 1, 0, 0, 0, 12, 0);
        Sender.send(x, spoilt(Sender.header(1, 0xFF, 0, 0, 2, 0, ""), 20));
        counts("also where nothing rolls", x, 2, 0, 0, 0, 14, 0);
        Sender.send(x, spoilt(Sender.header(1, 0x00), 8));
        counts("with a page", x, 3, 0, 0, 0, 26, 0);
    }

    private static void rowsOfLetters() {
        PageReceiver x = new PageReceiver(1);
        Sender.send(x, Sender.header(1, 0x00), spoilt(Sender.packet(1, 7), 2));
        counts("twenty wrong", x, 2, 0, 0, 0, 20, 0);
        Sender.send(x, mended(Sender.row(1, 1, "abc"), 0, 1));
        counts("address mended", x, 3, 0, 2, 0, 20, 0);
    }

    private static void rowsWithoutAPage() {
        PageReceiver x = new PageReceiver(1);
        Sender.send(x, Sender.header(2, 0x00));
        for (int row = 1; row < 32; row++) {
            Sender.send(x, mended(spoilt(Sender.packet(1, row), 2), 1));
            counts("row " + row, x, 1 + row, 0, row, 0, 0, 0);
        }
    }

    private static void otherRows() {
        PageReceiver x = new PageReceiver(1);
        Sender.send(x, Sender.header(1, 0x00));
        for (int row = 8; row < 26; row++) {
            Sender.send(x, spoilt(Sender.packet(1, row), 2));
        }
        for (int row = 28; row < 32; row++) {
            Sender.send(x, spoilt(Sender.packet(1, row), 2));
        }
        counts("other rows", x, 23, 0, 0, 0, 0, 0);
    }

    private static void overlays() {
        PageReceiver x = new PageReceiver(1);
        int good = Sender.triplet(9, 15, 1);
        Sender.send(x, Sender.header(1, 0x00));
        Sender.send(x, Sender.overlays(1, good ^ 1, good ^ 3, good, good ^ 1 << 23, good ^ 6, good ^ 4));
        counts("triplets", x, 2, 0, 3, 2, 0, 0);
        int nothing = Sender.triplet(63, 0, 0);
        Sender.send(x, Sender.overlays(1, nothing ^ 1, nothing ^ 3));
        counts("those that do nothing", x, 3, 0, 4, 3, 0, 0);
        Sender.send(x, spoilt(Sender.overlays(1), 20));
        counts("b20 and b21 tell nothing", x, 4, 0, 4, 3, 0, 0);
    }

    private static void links() {
        PageReceiver x = new PageReceiver(1);
        int[] links = Sender.links(1, 1, 2, 3, 4, 5, 6, 7, 8, 9, 10, 11, 12);
        Sender.send(x, Sender.header(1, 0x00), mended(links, 2, 3, 13));
        counts("mended", x, 2, 0, 3, 0, 0, 0);
        Sender.send(x, spoilt(links, 14));
        counts("b14 and on tell nothing", x, 3, 0, 3, 0, 0, 0);
        Sender.send(x, mended(Sender.with(links, 2, Sender.lostNibble()), 3, 4));
        counts("those behind a lost one are looked at", x, 4, 0, 5, 1, 0, 0);
        Sender.send(x, filled(links, 2, Sender.lostNibble()));
        counts("all lost", x, 5, 0, 5, 13, 0, 0);
    }

    private static void completed() {
        PageReceiver x = new PageReceiver(1);
        Sender.send(x, Sender.header(1, 0x00), Sender.header(2, 0x00), Sender.header(3, 0x00));
        counts("none completed", x, 3, 0, 0, 0, 0, 0);
        Sender.send(x, Sender.header(4, 0x00, 0, 0, 1, 0, ""));
        counts("three completed", x, 4, 0, 0, 0, 0, 3);
        Sender.send(x, Sender.header(4, 0x00), Sender.end(4), Sender.end(4));
        counts("same page twice", x, 7, 0, 0, 0, 0, 5);
    }
}
