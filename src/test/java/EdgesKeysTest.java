/** The section Terms at its edges: the keys. */
public final class EdgesKeysTest {
    private EdgesKeysTest() {
    }

    public static void main(String[] args) {
        firstDigitOneToEight();
        otherFirstDigits();
        laterDigits();
        threeDigits();
        firstModuloEight();
        digitsLetGo();
        twoDigitsLetNothingGo();
        linkKeys();
        noPageForALink();
        noSuchLink();
        linksLetGo();
        noLinkLetsNothingGo();
        hold();
        holdNoLonger();
        holdWithoutAPage();
        reveal();
        revealWithoutAPage();
        digitsBeginAnew();
        wrongKeysChangeNothing();
        Check.finish();
    }

    private static void viewer(String name, PageReceiver x, int... due) {
        for (int what = 0; what < 4; what++) {
            Check.due(name + ": viewer " + what, x.viewer(what), due[what]);
        }
    }

    private static void firstDigitOneToEight() {
        Check.sentence("(the first one 1 to 8; another one does nothing)");
        for (int digit = 1; digit <= 8; digit++) {
            PageReceiver x = new PageReceiver(1);
            Check.due("first digit " + digit, x.key(digit), true);
            viewer("first digit " + digit, x, 256, 1, 0, 0);
        }
    }

    private static void otherFirstDigits() {
        Check.sentence("another one does nothing");
        for (int digit : new int[] {0, 9}) {
            PageReceiver x = new PageReceiver(1);
            Check.due("first digit " + digit, x.key(digit), false);
            viewer("first digit " + digit, x, 256, 0, 0, 0);
            Sender.keys(x, 2, 3);
            viewer("two digits behind " + digit, x, 256, 2, 0, 0);
            Sender.keys(x, 4, digit);
            viewer("three digits behind " + digit, x, 0x234, 0, 0, 0);
        }
    }

    /** 0 and 9 are digits like others when they are not the first. */
    private static void laterDigits() {
        Check.sentence("KEYS: 0 to 9, digits: three of them one after the other");
        for (int digit = 0; digit <= 9; digit++) {
            PageReceiver x = new PageReceiver(1);
            Sender.keys(x, 7);
            Check.due("second digit " + digit, x.key(digit), true);
            viewer("second digit " + digit, x, 256, 2, 0, 0);
            Check.due("third digit " + (9 - digit), x.key(9 - digit), true);
            viewer("third digit " + (9 - digit), x, 0x700 + 16 * digit + 9 - digit, 0, 0, 0);
        }
    }

    private static void threeDigits() {
        Check.sentence("make 256 * (first modulo 8) + 16 * second + third the wanted page");
        PageReceiver x = new PageReceiver(1);
        Sender.keys(x, 1, 2, 3);
        viewer("123", x, 0x123, 0, 0, 0);
        Sender.keys(x, 4, 5);
        viewer("45", x, 0x123, 2, 0, 0);
        Sender.keys(x, 6);
        viewer("456", x, 0x456, 0, 0, 0);
        Sender.keys(x, 7, 9, 9);
        viewer("799", x, 0x799, 0, 0, 0);
    }

    private static void firstModuloEight() {
        Check.sentence("256 * (first modulo 8)");
        PageReceiver x = new PageReceiver(1);
        Sender.keys(x, 8, 0, 0);
        viewer("800", x, 0, 0, 0, 0);
        Sender.keys(x, 8, 9, 9);
        viewer("899", x, 0x99, 0, 0, 0);
        Sender.keys(x, 7, 0, 0);
        viewer("700", x, 0x700, 0, 0, 0);
    }

    /** Page 100 with the links 111, none, none and 100, held and revealed. */
    private static PageReceiver heldAndRevealed() {
        int[] links = Sender.links(1, 1, 1, 0, 2, 2, 0, 3, 3, 0, 0, 0, 0);
        links[5] = Sender.lostNibble();
        links[8] = Sender.lostNibble();
        PageReceiver x = Sender.receiving(links);
        Sender.keys(x, 14, 15);
        return x;
    }

    private static void digitsLetGo() {
        Check.sentence("nothing is held, nothing revealed then.");
        PageReceiver x = heldAndRevealed();
        viewer("before", x, 256, 0, 1, 1);
        Sender.keys(x, 1, 0, 0);
        viewer("the same page", x, 256, 0, 0, 0);
        PageReceiver y = heldAndRevealed();
        Sender.keys(y, 2, 0, 0);
        viewer("another page", y, 0x200, 0, 0, 0);
        Check.due("shown", y.shown(), -1);
    }

    private static void twoDigitsLetNothingGo() {
        Check.sentence("nothing is held, nothing revealed then");
        PageReceiver x = heldAndRevealed();
        Sender.keys(x, 9, 0);
        viewer("no digit", x, 256, 0, 1, 1);
        Sender.keys(x, 2);
        viewer("one digit", x, 256, 1, 1, 1);
        Sender.keys(x, 0);
        viewer("two digits", x, 256, 2, 1, 1);
    }

    private static void linkKeys() {
        Check.sentence("10 to 13: link 0 to 3 of the page that is shown becomes the wanted page");
        for (int k = 0; k < 4; k++) {
            PageReceiver x = Sender.receiving(Sender.links(1, 1, 1, 0, 2, 2, 1, 15, 15, 2, 12, 10, 9));
            Check.due("key " + (10 + k), x.key(10 + k), true);
            viewer("key " + (10 + k), x, new int[] {0x111, 0x022, 0x3FF, 0x0AC}[k], 0, 0, 0);
        }
    }

    private static void noPageForALink() {
        Check.sentence("if there is such a page and link");
        PageReceiver x = Sender.receiving(Sender.links(1, 1, 1, 0, 2, 2, 0, 3, 3, 0, 4, 4, 0));
        Sender.keys(x, 2, 0, 0);
        for (int key = 10; key <= 13; key++) {
            Check.due("key " + key, x.key(key), false);
            viewer("key " + key, x, 0x200, 0, 0, 0);
        }
    }

    private static void noSuchLink() {
        Check.sentence("such a page and link");
        PageReceiver x = Sender.receiving();
        for (int key = 10; key <= 13; key++) {
            Check.due("key " + key, x.key(key), false);
            viewer("key " + key, x, 256, 0, 0, 0);
        }
    }

    private static void linksLetGo() {
        Check.sentence("likewise.");
        PageReceiver x = heldAndRevealed();
        Check.due("link 0", x.key(10), true);
        viewer("another page", x, 0x111, 0, 0, 0);
        PageReceiver y = heldAndRevealed();
        Check.due("link 3", y.key(13), true);
        viewer("the same page", y, 256, 0, 0, 0);
    }

    private static void noLinkLetsNothingGo() {
        Check.sentence("if there is such a page and link; likewise.");
        PageReceiver x = heldAndRevealed();
        Check.due("link 1", x.key(11), false);
        Check.due("link 2", x.key(12), false);
        viewer("held and revealed still", x, 256, 0, 1, 1);
    }

    private static void hold() {
        Check.sentence("14: the page that is shown is held");
        PageReceiver x = Sender.receiving(Sender.row(1, 1, "old"));
        Check.due("hold", x.key(14), true);
        viewer("held", x, 256, 0, 1, 0);
        Sender.send(x, Sender.header(1, 0x00), Sender.row(1, 1, "new"), Sender.end(1));
        Check.due("as it was held", x.look(1, 0, 0), 'o');
    }

    private static void holdNoLonger() {
        Check.sentence("or, if one is held, no longer");
        PageReceiver x = Sender.receiving(Sender.row(1, 1, "old"));
        Sender.keys(x, 15, 14);
        Sender.send(x, Sender.header(1, 0x00), Sender.row(1, 1, "new"), Sender.end(1));
        Check.due("no longer", x.key(14), true);
        viewer("no longer held", x, 256, 0, 0, 1);
        Check.due("as it is kept", x.look(1, 0, 0), 'n');
        Check.due("held again", x.key(14), true);
        Sender.send(x, Sender.header(1, 0x00), Sender.row(1, 1, "third"), Sender.end(1));
        Check.due("as it was held then", x.look(1, 0, 0), 'n');
    }

    private static void holdWithoutAPage() {
        Check.sentence("nothing if none is shown.");
        PageReceiver x = new PageReceiver(2);
        Check.due("nothing has come", x.key(14), false);
        Sender.keep(x, 2, 0x00);
        Sender.send(x, Sender.header(1, 0x00));
        Check.due("another is kept, it is coming", x.key(14), false);
        viewer("nothing is held", x, 256, 0, 0, 0);
        Sender.send(x, Sender.end(1));
        Check.due("shown", x.shown(), 256);
    }

    private static void reveal() {
        Check.sentence("15: what is concealed is revealed; or no longer.");
        PageReceiver x = Sender.receiving(Sender.row(1, 1, 24, 'a'));
        for (int i = 0; i < 4; i++) {
            Check.due("concealed", x.look(1, 1, 0), i % 2 == 0 ? 32 : 'a');
            viewer("before key 15", x, 256, 0, 0, i % 2);
            Check.due("key 15", x.key(15), true);
        }
    }

    private static void revealWithoutAPage() {
        Check.sentence("15: what is concealed is revealed");
        PageReceiver x = new PageReceiver(1);
        Sender.send(x, Sender.header(5, 0x00, 0, 0, 0, 0, "\u0018a"));
        Check.due("concealed in the rolling row", x.look(0, 9, 0), 32);
        Check.due("key 15", x.key(15), true);
        viewer("revealed", x, 256, 0, 0, 1);
        Check.due("revealed in the rolling row", x.look(0, 9, 0), 'a');
        Sender.send(x, Sender.header(1, 0x00), Sender.row(1, 1, 24, 'b'), Sender.end(1));
        Check.due("revealed in a page that came later", x.look(1, 1, 0), 'b');
    }

    /** Also a key that does nothing else. */
    private static void digitsBeginAnew() {
        Check.sentence("All of 10 to 15 begin the digits anew.");
        for (int key = 10; key <= 15; key++) {
            for (int page = 0; page < 2; page++) {
                for (int digits = 1; digits <= 2; digits++) {
                    PageReceiver x = new PageReceiver(1);
                    if (page == 1) {
                        Sender.send(x, Sender.header(1, 0x00), Sender.links(1, 1, 1, 0, 2, 2, 0, 3, 3, 0, 4, 4, 0));
                        Sender.send(x, Sender.end(1));
                    }
                    Sender.keys(x, digits == 1 ? new int[] {3} : new int[] {3, 3});
                    Check.due("digits wait", x.viewer(1), digits);
                    x.key(key);
                    Check.due("none waits behind " + key, x.viewer(1), 0);
                    Check.due("0 is no first digit behind " + key, x.key(0), false);
                    Sender.keys(x, 4, 5, 6);
                    Check.due("wanted behind " + key, x.viewer(0), 0x456);
                }
            }
        }
    }

    private static void wrongKeysChangeNothing() {
        Check.sentence("false when key is not 0 .. 15.");
        for (int key : new int[] {-1, 16, 17, -10, 26, 256, Integer.MIN_VALUE, Integer.MAX_VALUE}) {
            PageReceiver x = heldAndRevealed();
            Sender.keys(x, 2, 0);
            Check.due("key " + key, x.key(key), false);
            viewer("key " + key, x, 256, 2, 1, 1);
        }
    }
}
