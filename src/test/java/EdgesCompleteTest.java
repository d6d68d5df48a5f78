/** The section Terms at its edges: where a page is kept, the wanted page, and what is shown. */
public final class EdgesCompleteTest {
    private EdgesCompleteTest() {
    }

    public static void main(String[] args) {
        noLongerComing();
        placeOfTheSameNumber();
        sameNumberInAFullRow();
        freePlaces();
        longestAgo();
        completedAgain();
        wantedPageIsNotCounted();
        wantedPageInEveryPlace();
        wantedPageIsThatOfNow();
        wantedPageInOnePlace();
        wantedPageThatIsNotKept();
        wantedPageWhileItIsHeld();
        atMostSoMany();
        wantedAtFirst();
        shownWhenKept();
        shownAsItIsKept();
        heldAsItWas();
        heldThoughItGaveWay();
        Check.finish();
    }

    private static PageReceiver keeping(int places, int... pages) {
        PageReceiver x = new PageReceiver(places);
        keep(x, pages);
        return x;
    }

    private static void keep(PageReceiver x, int... pages) {
        for (int page : pages) {
            Sender.keep(x, page >> 8, page & 255);
        }
    }

    private static void places(String name, PageReceiver x, int... due) {
        for (int k = 0; k < due.length; k++) {
            Check.due(name + ": place " + k, x.kept(k, 0), due[k]);
        }
    }

    private static void noLongerComing() {
        Check.sentence("TO COMPLETE a page: it is no longer coming");
        PageReceiver x = new PageReceiver(2);
        Sender.send(x, Sender.header(1, 0x00), Sender.end(1), Sender.end(1), Sender.row(1, 1, "abc"));
        Sender.send(x, Sender.header(2, 0xFF, 0, 0, 1, 0, ""), Sender.end(1));
        Check.due("completed once", x.count(5), 1);
        Check.due("it takes no row", x.look(1, 0, 0), 32);
        Check.due("one place", x.kept(1, 0), -1);
    }

    private static void placeOfTheSameNumber() {
        Check.sentence("it is KEPT in the place of the kept page with its number");
        places("with free places", keeping(4, 0x301, 0x302, 0x303, 0x302), 0x301, 0x302, 0x303, -1);
        PageReceiver x = keeping(2, 0x301, 0x301);
        places("the same again", x, 0x301, -1);
        Check.due("completed before it", x.kept(0, 3), 1);
    }

    /** Also the last place, though others were completed longer ago; also in one place alone. */
    private static void sameNumberInAFullRow() {
        Check.sentence("in the place of the kept page with its number, or else");
        places("last of four", keeping(4, 0x301, 0x302, 0x303, 0x304, 0x304), 0x301, 0x302, 0x303, 0x304);
        places("wanted one", keeping(2, 0x301, 0x100, 0x100), 0x301, 0x100);
        PageReceiver x = keeping(1, 0x301, 0x301);
        places("one place", x, 0x301);
        Check.due("completed before it", x.kept(0, 3), 1);
    }

    private static void freePlaces() {
        Check.sentence("or else in a free place");
        for (int places = 1; places <= 4; places++) {
            PageReceiver x = new PageReceiver(places);
            for (int k = 0; k < places; k++) {
                Check.due("free " + k, x.kept(k, 0), -1);
                keep(x, 0x301 + k);
                for (int i = 0; i < places; i++) {
                    Check.due("kept behind " + k, x.kept(i, 0), i <= k ? 0x301 + i : -1);
                }
            }
        }
    }

    private static void longestAgo() {
        Check.sentence("or else in place of the kept page that was completed longest ago");
        for (int places = 1; places <= 4; places++) {
            PageReceiver x = new PageReceiver(places);
            for (int i = 0; i < 13; i++) {
                keep(x, 0x300 + i);
                Check.due("page " + i + " of " + places, x.kept(i % places, 0), 0x300 + i);
                Check.due("completed before " + i, x.kept(i % places, 3), i);
            }
        }
    }

    private static void completedAgain() {
        Check.sentence("the kept page that was completed longest ago");
        places("the first again", keeping(3, 0x301, 0x302, 0x303, 0x301, 0x304), 0x301, 0x304, 0x303);
        places("two again", keeping(3, 0x301, 0x302, 0x303, 0x301, 0x302, 0x304), 0x301, 0x302, 0x304);
        places("all again", keeping(3, 0x301, 0x302, 0x303, 0x302, 0x301, 0x303, 0x304), 0x301, 0x304, 0x303);
    }

    private static void wantedPageIsNotCounted() {
        Check.sentence("not counting the wanted page if there are two places or more.");
        places("two places", keeping(2, 0x100, 0x301, 0x302, 0x303), 0x100, 0x303);
        places("three places", keeping(3, 0x100, 0x301, 0x302, 0x303, 0x304), 0x100, 0x303, 0x304);
        places("four places", keeping(4, 0x100, 0x301, 0x302, 0x303, 0x304), 0x100, 0x304, 0x302, 0x303);
    }

    private static void wantedPageInEveryPlace() {
        Check.sentence("not counting the wanted page");
        for (int places = 2; places <= 4; places++) {
            for (int wanted = 0; wanted < places; wanted++) {
                PageReceiver x = new PageReceiver(places);
                for (int k = 0; k < places; k++) {
                    keep(x, k == wanted ? 0x100 : 0x301 + k);
                }
                for (int i = 1; i <= 9; i++) {
                    keep(x, 0x310 + i);
                    Check.due(places + " places: wanted in " + wanted, x.kept(wanted, 0), 0x100);
                    int nth = (i - 1) % (places - 1);
                    Check.due(places + " places: page " + i, x.kept(nth < wanted ? nth : nth + 1, 0), 0x310 + i);
                }
            }
        }
    }

    private static void wantedPageIsThatOfNow() {
        Check.sentence("THE WANTED page is a number");
        PageReceiver x = keeping(2, 0x100, 0x301);
        Sender.keys(x, 3, 0, 1);
        keep(x, 0x302);
        places("the one wanted before gives way", x, 0x302, 0x301);
        Sender.keys(x, 3, 0);
        keep(x, 0x303);
        places("digits that wait want nothing", x, 0x303, 0x301);
        x.key(3);
        keep(x, 0x304);
        places("the one that is wanted now stays", x, 0x303, 0x304);
    }

    private static void wantedPageInOnePlace() {
        Check.sentence("if there are two places or more.");
        PageReceiver x = keeping(1, 0x100);
        Check.due("wanted", x.shown(), 0x100);
        keep(x, 0x301);
        places("one place", x, 0x301);
        Check.due("gave way", x.shown(), -1);
    }

    private static void wantedPageThatIsNotKept() {
        Check.sentence("the kept page that was completed longest ago, not counting the wanted page");
        places("the wanted page comes last", keeping(2, 0x301, 0x302, 0x100), 0x100, 0x302);
        places("and stays", keeping(2, 0x301, 0x302, 0x100, 0x303, 0x304), 0x100, 0x304);
    }

    /** As the document is read here, what is held changes what is shown alone: the wanted page is wanted still. */
    private static void wantedPageWhileItIsHeld() {
        Check.sentence("not counting the wanted page if there are two places");
        PageReceiver x = keeping(2, 0x100, 0x301);
        x.key(14);
        keep(x, 0x302, 0x303);
        places("held", x, 0x100, 0x303);
    }

    private static void atMostSoMany() {
        Check.sentence("At most C pages are kept.");
        for (int places = 1; places <= 4; places++) {
            PageReceiver x = keeping(places, 0x301, 0x302, 0x303, 0x304, 0x305, 0x306);
            int kept = 0;
            for (int k = 0; k < 8; k++) {
                kept += x.kept(k, 0) == -1 ? 0 : 1;
            }
            Check.due("kept of " + places, kept, places);
            Check.due("completed", x.count(5), 6);
        }
    }

    private static void wantedAtFirst() {
        Check.sentence("at first 256 (100).");
        PageReceiver x = new PageReceiver(2);
        Check.due("wanted", x.viewer(0), 256);
        keep(x, 0x100);
        Check.due("shown", x.shown(), 256);
    }

    private static void shownWhenKept() {
        Check.sentence("It is SHOWN when it is kept");
        PageReceiver x = keeping(2, 0x101, 0x200);
        Check.due("others are kept", x.shown(), -1);
        Sender.send(x, Sender.header(1, 0x00));
        Check.due("it is coming", x.shown(), -1);
        Sender.send(x, Sender.end(1));
        Check.due("it is kept", x.shown(), 256);
        Sender.keys(x, 2, 0, 0);
        Check.due("page 200 is kept still", x.shown(), 0x200);
        Sender.keys(x, 1, 0, 1);
        Check.due("page 101 gave way", x.shown(), -1);
    }

    private static void shownAsItIsKept() {
        Check.sentence("(as it is kept then)");
        PageReceiver x = Sender.receiving(Sender.row(1, 1, "old"));
        Check.due("first", x.look(1, 0, 0), 'o');
        Sender.send(x, Sender.header(1, 0x00, 0, 8, 0, 0, "new"), Sender.row(1, 1, "new"));
        Check.due("a page that is coming is not shown", x.look(1, 0, 0), 'o');
        Check.due("nor its header", x.look(0, 8, 0), 32);
        Sender.send(x, Sender.end(1));
        Check.due("completed", x.look(1, 0, 0), 'n');
        Check.due("its header", x.look(0, 8, 0), 'n');
    }

    private static void heldAsItWas() {
        Check.sentence("while it is HELD, the page is shown as it was when it was held, "
            + "and the wanted one does not count.");
        PageReceiver x = Sender.receiving(Sender.row(1, 1, "old#"), Sender.links(1, 1, 1, 0));
        PageReceiver y = Sender.receiving(Sender.row(1, 1, "old#"), Sender.links(1, 1, 1, 0));
        x.key(14);
        y.key(14);
        Sender.send(x, Sender.header(1, 0x00, 0, 8, 0, 5, "new"), Sender.row(1, 1, "new#"), Sender.links(1, 2, 2, 0));
        Sender.send(x, Sender.overlays(1, Sender.triplet(9, 15, 1)), Sender.end(1));
        for (int column = 0; column < 20; column++) {
            Check.due("row 0, " + column, x.look(0, column, 0), y.look(0, column, 0));
            Check.due("row 1, " + column, x.look(1, column, 0), y.look(1, column, 0));
        }
        Check.due("the kept one is new", x.kept(0, 2), 5);
        Check.due("the link of the held one", x.key(10), true);
        Check.due("is wanted", x.viewer(0), 0x111);
    }

    private static void heldThoughItGaveWay() {
        Check.sentence("the page is shown as it was when it was held");
        PageReceiver x = Sender.receiving(Sender.row(1, 1, "old"));
        x.key(14);
        keep(x, 0x301);
        places("it is not kept", x, 0x301);
        Check.due("it is shown", x.shown(), 256);
        Check.due("as it was", x.look(1, 0, 0), 'o');
        x.key(14);
        Check.due("no longer", x.shown(), -1);
        Check.due("its row", x.look(1, 0, 0), 32);
    }
}
