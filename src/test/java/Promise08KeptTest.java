/** Promise 8: what is told of the kept pages. */
public final class Promise08KeptTest {
    private Promise08KeptTest() {
    }

    public static void main(String[] args) {
        PageReceiver x = new PageReceiver(3);
        Sender.send(x, Sender.header(4, 0x56, 7, 0, 0, 11, ""));
        Sender.send(x, Sender.links(4, 1, 2, 3, 4, 5, 6, 7, 8, 9, 10, 11, 12), Sender.end(4));
        Sender.keep(x, 0, 0x00);
        Sender.keep(x, 0, 0x00);
        kept("first", x, 0, 0x456, 7, 3, 0, 256 * 7 + 0x21, 256 * 2 + 0x54, 256 * 5 + 0x87, 0xBA);
        kept("second", x, 1, 0, 0, 0, 2, -1, -1, -1, -1);
        for (int what = -1; what <= 8; what++) {
            for (int k : new int[] {2, 3, 4, -1, Integer.MIN_VALUE, Integer.MAX_VALUE}) {
                Check.due("no page in " + k, x.kept(k, what), -1);
            }
        }
        for (int what : new int[] {-1, 8, 9, Integer.MIN_VALUE, Integer.MAX_VALUE}) {
            Check.due("what " + what, x.kept(0, what), -1);
        }
        replaced();
        comingChangesNothing();
        Check.finish();
    }

    private static void kept(String name, PageReceiver x, int k, int... due) {
        for (int what = 0; what < due.length; what++) {
            Check.due(name + ": kept " + what, x.kept(k, what), due[what]);
        }
    }

    private static void replaced() {
        PageReceiver x = new PageReceiver(1);
        Sender.send(x, Sender.header(4, 0x56, 7, 0, 0, 3, ""), Sender.links(4, 1, 2, 3, 4, 5, 6), Sender.end(4));
        Sender.send(x, Sender.header(4, 0x57, 2, 0, 0, 1, ""), Sender.end(4));
        kept("replaced", x, 0, 0x457, 2, 1, 1, -1, -1, -1, -1);
    }

    private static void comingChangesNothing() {
        PageReceiver x = new PageReceiver(1);
        Sender.send(x, Sender.header(4, 0x56, 7, 0, 0, 3, ""), Sender.end(4));
        Sender.send(x, Sender.header(4, 0x56, 8, 0, 0, 4, ""), Sender.links(4, 1, 2, 3));
        kept("as it was completed", x, 0, 0x456, 7, 3, 0, -1, -1, -1, -1);
        Sender.send(x, Sender.end(4));
        kept("as it is now", x, 0, 0x456, 8, 4, 1, 256 * 7 + 0x21, -1, -1, -1);
    }
}
