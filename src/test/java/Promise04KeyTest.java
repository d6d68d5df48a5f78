/** Promise 4: digits, links, hold and reveal. */
public final class Promise04KeyTest {
    private Promise04KeyTest() {
    }

    public static void main(String[] args) {
        wrongKeys();
        firstDigits();
        otherDigits();
        commandsBeginDigitsAnew();
        linkKeys();
        linksOfNoPage();
        hold();
        heldPageHasItsLinks();
        holdOfNoPage();
        reveal();
        newPageIsNotHeldOrRevealed();
        Check.finish();
    }

    private static void wrongKeys() {
        PageReceiver x = new PageReceiver(1);
        Sender.keys(x, 1, 2);
        for (int key : new int[] {-1, 16, 100, Integer.MIN_VALUE, Integer.MAX_VALUE}) {
            Check.due("key " + key, x.key(key), false);
            Check.due("digits wait", x.viewer(1), 2);
        }
    }

    private static void firstDigits() {
        for (int digit = 0; digit <= 9; digit++) {
            PageReceiver x = new PageReceiver(1);
            boolean taken = digit >= 1 && digit <= 8;
            Check.due("first digit " + digit, x.key(digit), taken);
            Check.due("waits", x.viewer(1), taken ? 1 : 0);
            Check.due("second digit", x.key(2), true);
            Check.due("third digit", x.key(3), true);
            Check.due("wanted", x.viewer(0), taken ? 256 * (digit % 8) + 0x23 : 256);
        }
    }

    private static void otherDigits() {
        for (int digits = 0; digits < 100; digits++) {
            PageReceiver x = new PageReceiver(1);
            Check.due("first", x.key(8), true);
            Check.due("second", x.key(digits / 10), true);
            Check.due("two wait", x.viewer(1), 2);
            Check.due("not wanted yet", x.viewer(0), 256);
            Check.due("third", x.key(digits % 10), true);
            Check.due("none waits", x.viewer(1), 0);
            Check.due("wanted", x.viewer(0), 16 * (digits / 10) + digits % 10);
        }
    }

    private static void commandsBeginDigitsAnew() {
        for (int key = 10; key <= 15; key++) {
            for (int digits = 1; digits <= 2; digits++) {
                PageReceiver x = new PageReceiver(1);
                Sender.keys(x, 3);
                if (digits == 2) {
                    Sender.keys(x, 4);
                }
                Check.due("key " + key, x.key(key), key == 15);
                Check.due("none waits behind " + key, x.viewer(1), 0);
                Sender.keys(x, 4, 5, 6);
                Check.due("wanted behind " + key, x.viewer(0), 0x456);
            }
        }
    }

    /** Page 100 with the links 111, 122, none and 144. */
    private static PageReceiver linked() {
        PageReceiver x = new PageReceiver(2);
        int[] links = Sender.with(Sender.links(1, 1, 1, 0, 2, 2, 0, 3, 3, 0, 4, 4, 0), 8, Sender.lostNibble());
        Sender.send(x, Sender.header(1, 0x00), links, Sender.row(1, 1, "abc"), Sender.end(1));
        return x;
    }

    private static void linkKeys() {
        int[] due = {0x111, 0x122, -1, 0x144};
        for (int k = 0; k < 4; k++) {
            PageReceiver x = linked();
            Check.due("key " + (10 + k), x.key(10 + k), due[k] != -1);
            Check.due("wanted behind " + k, x.viewer(0), due[k] == -1 ? 256 : due[k]);
            Check.due("shown behind " + k, x.shown(), due[k] == -1 ? 256 : -1);
        }
        PageReceiver y = new PageReceiver(1);
        Sender.send(y, Sender.header(1, 0x00), Sender.links(1, 0, 0, 0, 11, 12, 7), Sender.end(1));
        Check.due("a link to itself", y.key(10), true);
        Check.due("is shown", y.shown(), 256);
        Check.due("a link with letters", y.key(11), true);
        Check.due("is wanted", y.viewer(0), 256 * 6 + 16 * 12 + 11);
    }

    private static void linksOfNoPage() {
        PageReceiver x = linked();
        Sender.keys(x, 2, 0, 0);
        for (int key = 10; key <= 13; key++) {
            Check.due("key " + key + " without a page", x.key(key), false);
        }
        Check.due("wanted", x.viewer(0), 0x200);
    }

    private static void hold() {
        PageReceiver x = linked();
        Check.due("hold", x.key(14), true);
        Check.due("one is held", x.viewer(2), 1);
        Sender.send(x, Sender.header(1, 0x00, 0, 8, 0, 1, "new"), Sender.row(1, 1, "xyz"), Sender.end(1));
        Check.due("as it was held", x.look(1, 0, 0), 'a');
        Check.due("its head too", x.look(0, 8, 0), 32);
        Check.due("its number", x.shown(), 256);
        Check.due("the kept one is new", x.kept(0, 2), 1);
        Check.due("no longer", x.key(14), true);
        Check.due("none is held", x.viewer(2), 0);
        Check.due("as it is kept", x.look(1, 0, 0), 'x');
        Check.due("its head as it is kept", x.look(0, 8, 0), 'n');
    }

    private static void heldPageHasItsLinks() {
        PageReceiver x = new PageReceiver(1);
        Sender.send(x, Sender.header(1, 0x00), Sender.links(1, 1, 1, 0), Sender.end(1));
        x.key(14);
        Sender.keep(x, 3, 0x00);
        Check.due("not kept", x.kept(0, 0), 0x300);
        Check.due("but held", x.shown(), 256);
        Check.due("its link", x.key(10), true);
        Check.due("is wanted", x.viewer(0), 0x111);
        Check.due("nothing is held", x.viewer(2), 0);
        Check.due("nothing is shown", x.shown(), -1);
        PageReceiver y = new PageReceiver(1);
        Sender.keep(y, 1, 0x00);
        y.key(14);
        Sender.keep(y, 3, 0x00);
        Check.due("no longer held", y.key(14), true);
        Check.due("it is not kept", y.shown(), -1);
    }

    private static void holdOfNoPage() {
        PageReceiver x = new PageReceiver(1);
        Check.due("hold", x.key(14), false);
        Check.due("none is held", x.viewer(2), 0);
        Sender.keep(x, 1, 0x00);
        Check.due("shown", x.shown(), 256);
    }

    private static void reveal() {
        PageReceiver x = Sender.showing(1, 24, 'a');
        Check.due("concealed", x.look(1, 1, 0), 32);
        Check.due("reveal", x.key(15), true);
        Check.due("revealed", x.look(1, 1, 0), 'a');
        Check.due("told", x.viewer(3), 1);
        Check.due("no longer", x.key(15), true);
        Check.due("concealed again", x.look(1, 1, 0), 32);
        Check.due("told again", x.viewer(3), 0);
        PageReceiver y = new PageReceiver(1);
        Check.due("reveal without a page", y.key(15), true);
        Check.due("is told", y.viewer(3), 1);
    }

    private static void newPageIsNotHeldOrRevealed() {
        PageReceiver x = linked();
        Sender.keys(x, 14, 15, 1, 0);
        Check.due("still held", x.viewer(2), 1);
        Check.due("still revealed", x.viewer(3), 1);
        x.key(0);
        Check.due("by digits: nothing held", x.viewer(2), 0);
        Check.due("by digits: nothing revealed", x.viewer(3), 0);
        Sender.keys(x, 14, 15, 12);
        Check.due("without a link: held", x.viewer(2), 1);
        Check.due("without a link: revealed", x.viewer(3), 1);
        Sender.keys(x, 10);
        Check.due("by a link: nothing held", x.viewer(2), 0);
        Check.due("by a link: nothing revealed", x.viewer(3), 0);
        Sender.keys(x, 15, 14, 9);
        Check.due("what does nothing changes nothing", x.viewer(3), 1);
    }
}
