/** Promise 2, the rows 26 and 27. */
public final class Promise02OverlaysAndLinksTest {
    private Promise02OverlaysAndLinksTest() {
    }

    public static void main(String[] args) {
        activeRows();
        activeRowBeginsAnew();
        otherTripletsDoNothing();
        lostTripletsDoNothing();
        laterOverlaysReplace();
        overlaysWithoutAPage();
        linksAreTaken();
        lostNibblesOfLinks();
        linksWithoutAPage();
        Check.finish();
    }

    private static void activeRows() {
        for (int row = 0; row < 8; row++) {
            PageReceiver x = Sender.receiving(Sender.overlays(1,
                Sender.triplet(40 + row, 4, 99), Sender.triplet(8, 15, 0), Sender.triplet(19, 31, 127)));
            for (int seen = 0; seen < 8; seen++) {
                Check.due("active " + row + ", seen " + seen, x.look(seen, 8, 0), seen == row ? 128 : 32);
                Check.due("active " + row + ", last of " + seen, x.look(seen, 19, 0), seen == row ? 4223 : 32);
            }
        }
        PageReceiver y = Sender.receiving(Sender.overlays(1,
            Sender.triplet(9, 15, 1), Sender.triplet(43, 4, 0), Sender.triplet(9, 15, 2),
            Sender.triplet(41, 4, 0), Sender.triplet(9, 15, 3), Sender.triplet(0, 16, 4)));
        Check.due("at first row 0", y.look(0, 9, 0), 129);
        Check.due("then row 3", y.look(3, 9, 0), 130);
        Check.due("then row 1", y.look(1, 9, 0), 131);
        Check.due("the sixth", y.look(1, 0, 0), 260);
        PageReceiver z = Sender.receiving(Sender.overlays(1, Sender.triplet(47, 4, 0), Sender.triplet(9, 15, 1),
            Sender.triplet(40, 4, 0), Sender.triplet(9, 15, 2)));
        Check.due("row 7", z.look(7, 9, 0), 129);
        Check.due("row 0 again", z.look(0, 9, 0), 130);
    }

    private static void activeRowBeginsAnew() {
        PageReceiver x = Sender.receiving(
            Sender.overlays(1, Sender.triplet(45, 4, 0), Sender.triplet(9, 15, 1)),
            Sender.overlays(1, Sender.triplet(10, 15, 2)));
        Check.due("first packet", x.look(5, 9, 0), 129);
        Check.due("second packet", x.look(0, 10, 0), 130);
        Check.due("not in row 5", x.look(5, 10, 0), 32);
    }

    private static void otherTripletsDoNothing() {
        for (int mode = 0; mode < 32; mode++) {
            PageReceiver x = Sender.receiving(Sender.overlays(1,
                Sender.triplet(42, 4, 0), Sender.triplet(20, mode, 1), Sender.triplet(39, mode, 1),
                Sender.triplet(48, mode, 1), Sender.triplet(43, mode == 4 ? 5 : mode, 1), Sender.triplet(1, 15, 1)));
            Check.due("mode " + mode + ": active row stays", x.look(2, 1, 0), 129);
            for (int row = 1; row < 8; row++) {
                Check.due("mode " + mode + ": row " + row, x.look(row, 0, 0), 32);
                Check.due("mode " + mode + ": last of row " + row, x.look(row, 19, 0), 32);
            }
        }
    }

    private static void lostTripletsDoNothing() {
        int lost = Sender.triplet(44, 4, 0) ^ 3;
        PageReceiver x = Sender.receiving(Sender.overlays(1, lost, Sender.triplet(9, 15, 1)));
        Check.due("active row stays", x.look(0, 9, 0), 129);
        Check.due("dropped", x.count(1), 0);
    }

    private static void laterOverlaysReplace() {
        PageReceiver x = Sender.receiving(
            Sender.overlays(1, Sender.triplet(41, 4, 0), Sender.triplet(3, 15, 1), Sender.triplet(3, 20, 2)),
            Sender.row(1, 1, "abcdef"));
        Check.due("overlay", x.look(1, 3, 0), 2 + 256 * 5);
        Check.due("letter beside it", x.look(1, 4, 0), 'e');
    }

    private static void overlaysWithoutAPage() {
        PageReceiver x = new PageReceiver(1);
        Sender.send(x, Sender.overlays(1, Sender.triplet(9, 15, 1)), Sender.header(1, 0x00), Sender.end(1));
        Check.due("nothing", x.look(0, 9, 0), 32);
    }

    private static void linksAreTaken() {
        for (int magazine = 0; magazine < 8; magazine++) {
            PageReceiver x = new PageReceiver(1);
            Sender.send(x, Sender.header(magazine, 0x00));
            Sender.send(x, Sender.links(magazine, 1, 2, 0, 15, 15, 7, 0, 0, 8, 9, 10, 13), Sender.end(magazine));
            Check.due("link 0", x.kept(0, 4), 256 * magazine + 0x21);
            Check.due("link 1", x.kept(0, 5), 256 * (magazine ^ 7) + 0xFF);
            Check.due("link 2", x.kept(0, 6), 256 * magazine);
            Check.due("link 3", x.kept(0, 7), 256 * (magazine ^ 5) + 0xA9);
        }
    }

    private static void lostNibblesOfLinks() {
        for (int at = 2; at < 14; at++) {
            int[] old = Sender.links(1, 1, 1, 1, 2, 2, 2, 3, 3, 3, 4, 4, 4);
            int[] next = Sender.links(1, 5, 5, 5, 6, 6, 6, 7, 7, 7, 8, 8, 8);
            PageReceiver x = Sender.receiving(old, Sender.with(next, at, Sender.lostNibble()));
            for (int k = 0; k < 4; k++) {
                int d = k == (at - 2) / 3 ? k + 1 : k + 5;
                Check.due(at + " lost: link " + k, x.kept(0, 4 + k), 256 * ((1 ^ d) % 8) + 17 * d);
            }
            Check.due(at + " lost: lost", x.count(3), 1);
            Check.due(at + " lost: dropped", x.count(1), 0);
        }
        int[] links = Sender.links(1, 5, 5, 5, 6, 6, 6, 7, 7, 7, 8, 8, 8);
        PageReceiver y = Sender.receiving(Sender.with(links, 2, Sender.lostNibble()));
        Check.due("none stays none", y.kept(0, 4), -1);
    }

    private static void linksWithoutAPage() {
        PageReceiver x = new PageReceiver(1);
        int[] links = Sender.links(1, 1, 1, 1, 2, 2, 2, 3, 3, 3, 4, 4, 4);
        Sender.send(x, Sender.header(2, 0x00), links, Sender.header(1, 0x00), Sender.end(1));
        Check.due("nothing", x.kept(0, 4), -1);
    }
}
