/** The promises 1 to 8 at their edges: what each call answers, and what it leaves alone. */
public final class EdgesCallsTest {
    /** Far from every number that a call takes. */
    private static final int[] FAR = {-256, -100, 64, 100, 256, 65536, Integer.MIN_VALUE, Integer.MAX_VALUE};

    private EdgesCallsTest() {
    }

    public static void main(String[] args) {
        fiveHundredAndTwelveCalls();
        fewestPlaces();
        mostPlaces();
        nothingHasCome();
        lightIsOn();
        lowestBytes();
        highestFirst();
        packetWithinBytes();
        bytesLeft();
        wrongN();
        resetAnswers();
        resetLeavesTheRest();
        keyAnswers();
        digitsBegunAnewAreNothing();
        tickAnswers();
        tickLeavesTheRest();
        shownIsNone();
        shownNumbers();
        viewerAnswers();
        wrongViewer();
        keptAnswers();
        keptPlaces();
        wrongKept();
        Check.finish();
    }

    private static void fiveHundredAndTwelveCalls() {
        Check.sentence("An object is used for at most 512 calls after it has been made");
        PageReceiver x = new PageReceiver(1);
        for (int call = 1; call <= 510; call++) {
            x.feed(0, 8);
        }
        Check.due("the 511th call", x.feed(0, 8), 511 * 8 % 22);
        Check.due("the 512th call", x.count(0), 511 * 8 / 22);
        PageReceiver y = Sender.receiving(Sender.row(1, 1, 8, 'a'));
        for (int call = 10; call <= 510; call++) {
            Check.due("tick", y.tick(), call % 2 == 1);
        }
        Check.due("behind 501 ticks", y.look(1, 1, 0), 32);
    }

    private static int placesOf(int places) {
        PageReceiver x = new PageReceiver(places);
        for (int page = 1; page <= 6; page++) {
            Sender.keep(x, 3, page);
        }
        int kept = 0;
        for (int k = 0; k < 8; k++) {
            kept += x.kept(k, 0) == -1 ? 0 : 1;
        }
        return kept;
    }

    private static void fewestPlaces() {
        Check.sentence("C is places, but at least 1");
        Check.due("places 1", placesOf(1), 1);
        Check.due("places 0", placesOf(0), 1);
        Check.due("places -1", placesOf(-1), 1);
        Check.due("places -4", placesOf(-4), 1);
        Check.due("fewest", placesOf(Integer.MIN_VALUE), 1);
    }

    private static void mostPlaces() {
        Check.sentence("and at most 4.");
        Check.due("places 2", placesOf(2), 2);
        Check.due("places 3", placesOf(3), 3);
        Check.due("places 4", placesOf(4), 4);
        Check.due("places 5", placesOf(5), 4);
        Check.due("most", placesOf(Integer.MAX_VALUE), 4);
    }

    private static void nothingHasCome() {
        Check.sentence("Nothing has come");
        for (int places = 1; places <= 4; places++) {
            PageReceiver x = new PageReceiver(places);
            Check.due("shown", x.shown(), -1);
            Check.due("bytes", x.reset(), 0);
            for (int what = 0; what < 8; what++) {
                Check.due("viewer " + what, x.viewer(what), what == 0 ? 256 : what < 4 ? 0 : -1);
                Check.due("count " + what, x.count(what), what < 6 ? 0 : -1);
                for (int k = 0; k < 4; k++) {
                    Check.due("kept " + k + ", " + what, x.kept(k, what), -1);
                }
            }
            for (int cell = 0; cell < 160; cell++) {
                int due = cell < 4 ? "P100".charAt(cell) : 32;
                Check.due("cell " + cell, x.look(cell / 20, cell % 20, 0), due);
            }
        }
    }

    private static void lightIsOn() {
        Check.sentence("the light is on.");
        Check.due("what flashes", Sender.receiving(Sender.row(1, 1, 8, 'a')).look(1, 1, 0), 'a');
        Check.due("first tick", new PageReceiver(1).tick(), false);
    }

    /** An object that has taken a header by feeds of n bytes each, which stand below others. */
    private static PageReceiver fedBy(int n) {
        int[] packet = Sender.header(1, 0x00, 0, 0, 0, 0, "abcdefghijkl");
        PageReceiver x = new PageReceiver(1);
        for (int i = 0; i < 22; i += n) {
            long bytes = n < 8 ? -1L : 0;
            for (int at = i; at < i + n; at++) {
                bytes = bytes << 8 | (at < 22 ? packet[at] : 1);
            }
            x.feed(bytes, n);
        }
        return x;
    }

    private static void lowestBytes() {
        Check.sentence("The n lowest bytes, the highest first, are put behind those that came before");
        for (int n = 1; n <= 8; n++) {
            PageReceiver x = fedBy(n);
            for (int column = 8; column < 20; column++) {
                Check.due(n + " bytes each, letter " + column, x.look(0, column, 0), 'a' + column - 8);
            }
            Check.due(n + " bytes each, left", x.reset(), (22 + n - 1) / n * n - 22);
        }
    }

    private static void highestFirst() {
        Check.sentence("the highest first");
        PageReceiver x = new PageReceiver(1);
        x.feed(0x0215151515151515L, 8);
        x.feed(0x1515616262616161L, 8);
        x.feed(0x1111_6161_6161_6180L, 6);
        Check.due("dropped", x.count(1), 0);
        Check.due("b10 is the third highest of its bytes", x.look(0, 8, 0), 'a');
        Check.due("b11", x.look(0, 9, 0), 'b');
        Check.due("b20", x.look(0, 18, 0), 'a');
        Check.due("b21 is the lowest: a mark", x.look(0, 19, 0), 32);
    }

    private static void packetWithinBytes() {
        Check.sentence("whenever there are 22 they are a packet, which is taken, and none is left then.");
        for (int before = 14; before <= 21; before++) {
            PageReceiver x = new PageReceiver(1);
            int[] packet = Sender.header(1, 0x00, 0, 0, 0, 0, "abcdefghijkl");
            for (int i = 0; i < before; i++) {
                Check.due("byte " + i, x.feed(packet[i], 1), i + 1);
            }
            long bytes = 0;
            for (int i = before; i < before + 8; i++) {
                bytes = bytes << 8 | (i < 22 ? packet[i] : Sender.header(1, 0x01)[i - 22]);
            }
            Check.due(before + " and 8 bytes", x.feed(bytes, 8), before + 8 - 22);
            Check.due("one packet", x.count(0), 1);
            Check.due("its last letter", x.look(0, 19, 0), 'l');
            for (int i = before + 8; i < 44; i++) {
                x.feed(Sender.header(1, 0x01)[i - 22], 1);
            }
            Check.due("the packet behind it", x.count(0), 2);
            Check.due("is taken whole", x.shown(), 256);
        }
    }

    private static void bytesLeft() {
        Check.sentence("How many bytes are left at last (0 to 21)");
        for (int n = 1; n <= 8; n++) {
            PageReceiver x = new PageReceiver(1);
            for (int i = 1; i <= 44; i++) {
                Check.due(i + " times " + n, x.feed(-1L, n), i * n % 22);
            }
        }
    }

    private static void wrongN() {
        Check.sentence("NONE, and nothing is done, when n is not 1 .. 8.");
        for (int left : new int[] {0, 1, 21}) {
            for (int n : new int[] {0, 9, -1, 10, -8, 22, 64, 257, Integer.MIN_VALUE, Integer.MAX_VALUE}) {
                PageReceiver x = new PageReceiver(1);
                for (int i = 0; i < left; i++) {
                    x.feed(21, 1);
                }
                Check.due("feed of " + n, x.feed(0x1515151515151515L, n), -1);
                Check.due("no packet", x.count(0), 0);
                Check.due("left as before", x.reset(), left);
            }
        }
        Check.due("n is 1", new PageReceiver(1).feed(0, 1), 1);
        Check.due("n is 8", new PageReceiver(1).feed(0, 8), 8);
    }

    private static void resetAnswers() {
        Check.sentence("The bytes that came and are no packet yet are thrown away: how many.");
        for (int bytes = 0; bytes <= 44; bytes++) {
            PageReceiver x = new PageReceiver(1);
            for (int i = 0; i < bytes; i++) {
                x.feed(0, 1);
            }
            Check.due("behind " + bytes, x.reset(), bytes % 22);
            Check.due("again", x.reset(), 0);
            Check.due("packets", x.count(0), bytes / 22);
            Check.due("the next byte is the first", x.feed(0, 1), 1);
        }
    }

    private static void resetLeavesTheRest() {
        Check.sentence("The bytes that came and are no packet yet are thrown away");
        PageReceiver x = new PageReceiver(1);
        Sender.send(x, Sender.header(1, 0x00, 0, 0, 0, 0, "abc"), Sender.row(1, 1, 24, 'a', 8, 'b'));
        x.feed(0x1502, 2);
        x.reset();
        Sender.send(x, Sender.end(1));
        Check.due("what was coming", x.shown(), 256);
        Sender.keys(x, 14, 15, 2, 0);
        x.tick();
        x.feed(0, 7);
        Check.due("thrown away", x.reset(), 7);
        Check.due("packets", x.count(0), 3);
        Check.due("digits", x.viewer(1), 2);
        Check.due("held", x.viewer(2), 1);
        Check.due("revealed", x.look(1, 1, 0), 'a');
        Check.due("dark", x.look(1, 3, 0), 32);
        Sender.keys(x, 0);
        Check.due("wanted", x.viewer(0), 0x200);
    }

    private static void keyAnswers() {
        Check.sentence("Whether it did anything (a digit that was taken counts)");
        PageReceiver x = new PageReceiver(1);
        for (int key = 0; key < 16; key++) {
            Check.due("key " + key, x.key(key), key >= 1 && key <= 8 || key == 15);
            if (key > 0 && key < 9) {
                x.key(10);
            }
        }
        PageReceiver y = Sender.receiving(Sender.links(1, 1, 1, 0));
        Check.due("hold", y.key(14), true);
        Check.due("hold no longer", y.key(14), true);
        Check.due("no link 3", y.key(13), false);
        Check.due("link 0", y.key(10), true);
        Check.due("page 111 is not shown", y.key(10), false);
    }

    /** As the document is read here, a key that does no more than begin the digits anew did nothing. */
    private static void digitsBegunAnewAreNothing() {
        Check.sentence("Whether it did anything");
        for (int key = 10; key <= 14; key++) {
            PageReceiver x = new PageReceiver(1);
            Sender.keys(x, 3, 3);
            Check.due("key " + key, x.key(key), false);
            Check.due("digits", x.viewer(1), 0);
        }
    }

    private static void tickAnswers() {
        Check.sentence("The light goes on or off: whether it is on then.");
        PageReceiver x = Sender.receiving(Sender.row(1, 1, 'a', 8, 'b'));
        for (int i = 1; i <= 8; i++) {
            Check.due("tick " + i, x.tick(), i % 2 == 0);
            Check.due("no flash " + i, x.look(1, 0, 0), 'a');
            Check.due("flash " + i, x.look(1, 2, 0), i % 2 == 0 ? 'b' : 32);
            Check.due("flash is on " + i, x.look(1, 2, 3), 16);
        }
    }

    private static void tickLeavesTheRest() {
        Check.sentence("The light goes on or off");
        PageReceiver x = Sender.receiving(Sender.row(1, 1, "abc"));
        x.tick();
        Receivers.same("dark", x, Sender.receiving(Sender.row(1, 1, "abc")));
        PageReceiver y = new PageReceiver(1);
        y.tick();
        Sender.send(y, Sender.header(1, 0x00), Sender.row(1, 1, 8, 'a'), Sender.end(1));
        Sender.keys(y, 1, 0, 0, 14, 15);
        y.reset();
        Check.due("nothing else turns the light", y.look(1, 1, 0), 32);
    }

    private static void shownIsNone() {
        Check.sentence("NONE when there is none.");
        PageReceiver x = new PageReceiver(2);
        Check.due("nothing has come", x.shown(), -1);
        Sender.send(x, Sender.header(1, 0x00));
        Check.due("it is coming", x.shown(), -1);
        Sender.keep(x, 2, 0x00);
        Check.due("another is kept", x.shown(), -1);
        x.key(14);
        Check.due("nothing can be held", x.shown(), -1);
    }

    private static void shownNumbers() {
        Check.sentence("The number of the page that is shown");
        PageReceiver x = new PageReceiver(3);
        Sender.keep(x, 0, 0x00);
        Sender.keep(x, 7, 0x99);
        Sender.keys(x, 8, 0, 0);
        Check.due("the smallest", x.shown(), 0);
        Sender.keys(x, 7, 9, 9);
        Check.due("the greatest by digits", x.shown(), 0x799);
        x.key(14);
        Check.due("held", x.shown(), 0x799);
    }

    private static void viewerAnswers() {
        Check.sentence("what = 0: the wanted page; 1: how many digits wait; 2: 1 when one is held; "
            + "3: 1 when it is revealed");
        PageReceiver x = Sender.receiving();
        Sender.keys(x, 14, 15, 2, 0);
        Check.due("wanted", x.viewer(0), 256);
        Check.due("two digits", x.viewer(1), 2);
        Check.due("held", x.viewer(2), 1);
        Check.due("revealed", x.viewer(3), 1);
        x.key(0);
        Check.due("wanted then", x.viewer(0), 0x200);
        for (int what = 1; what <= 3; what++) {
            Check.due("viewer " + what, x.viewer(what), 0);
        }
    }

    private static void wrongViewer() {
        Check.sentence("NONE for another what.");
        PageReceiver x = Sender.receiving();
        Check.due("viewer -1", x.viewer(-1), -1);
        Check.due("viewer 4", x.viewer(4), -1);
        for (int what : FAR) {
            Check.due("viewer " + what, x.viewer(what), -1);
        }
    }

    private static PageReceiver keepingTwo() {
        PageReceiver x = new PageReceiver(3);
        Sender.keep(x, 6, 0x66);
        Sender.send(x, Sender.header(0, 0x00, 15, 0, 0, 15, ""));
        Sender.send(x, Sender.with(Sender.links(0, 0, 0, 0, 15, 15, 7, 1, 1, 1, 2, 2, 2), 8, Sender.lostNibble()));
        Sender.send(x, Sender.end(0));
        return x;
    }

    private static void keptAnswers() {
        Check.sentence("Of place k (from 0): its page's number (what = 0), subcode (1), set (2), how many were "
            + "completed before this one was (3), link 0 to 3 (4 to 7, NONE for none)");
        PageReceiver x = keepingTwo();
        int[] first = {0x666, 0, 0, 0, -1, -1, -1, -1};
        int[] second = {0, 15, 7, 1, 0, 0x7FF, -1, 0x222};
        for (int what = 0; what < 8; what++) {
            Check.due("place 0, " + what, x.kept(0, what), first[what]);
            Check.due("place 1, " + what, x.kept(1, what), second[what]);
        }
        Sender.keep(x, 6, 0x66);
        Check.due("completed again behind two", x.kept(0, 3), 2);
        Check.due("the other stays", x.kept(1, 3), 1);
    }

    private static void keptPlaces() {
        Check.sentence("NONE when it has none, there is no such place");
        PageReceiver x = keepingTwo();
        for (int what = 0; what < 8; what++) {
            Check.due("a free place, " + what, x.kept(2, what), -1);
            Check.due("no place 3, " + what, x.kept(3, what), -1);
            Check.due("no place 4, " + what, x.kept(4, what), -1);
            Check.due("no place -1, " + what, x.kept(-1, what), -1);
            for (int k : FAR) {
                Check.due("no place " + k, x.kept(k, what), -1);
            }
        }
    }

    private static void wrongKept() {
        Check.sentence("or for another what.");
        PageReceiver x = keepingTwo();
        for (int k = 0; k < 2; k++) {
            Check.due("what -1", x.kept(k, -1), -1);
            Check.due("what 8", x.kept(k, 8), -1);
            for (int what : FAR) {
                Check.due("what " + what, x.kept(k, what), -1);
            }
        }
        Check.due("neither place nor what", x.kept(-1, -1), -1);
    }
}
