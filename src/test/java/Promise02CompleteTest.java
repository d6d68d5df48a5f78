/** Promise 2, completing: where a page is kept. */
public final class Promise02CompleteTest {
    private Promise02CompleteTest() {
    }

    public static void main(String[] args) {
        samePlace();
        freePlaces();
        longestAgoGivesWay();
        completedAgainIsYoung();
        wantedPageStays();
        wantedPageStaysWhereverItIs();
        onePlaceHasNoWantedPage();
        heldPageIsStillWanted();
        Check.finish();
    }

    private static void numbers(String name, PageReceiver x, int... due) {
        for (int k = 0; k < due.length; k++) {
            Check.due(name + ": place " + k, x.kept(k, 0), due[k]);
        }
    }

    private static PageReceiver keeping(int places, int... pages) {
        PageReceiver x = new PageReceiver(places);
        for (int page : pages) {
            Sender.keep(x, page >> 8, page & 255);
        }
        return x;
    }

    private static void samePlace() {
        PageReceiver x = keeping(3, 0x201, 0x202, 0x201);
        numbers("same number", x, 0x201, 0x202, -1);
        Check.due("completed before", x.kept(0, 3), 2);
        Check.due("completed", x.count(5), 3);
    }

    private static void freePlaces() {
        numbers("free places", keeping(4, 0x301, 0x302, 0x303), 0x301, 0x302, 0x303, -1);
    }

    private static void longestAgoGivesWay() {
        numbers("first", keeping(3, 0x301, 0x302, 0x303, 0x304), 0x304, 0x302, 0x303);
        numbers("second", keeping(3, 0x301, 0x302, 0x303, 0x304, 0x305), 0x304, 0x305, 0x303);
        numbers("third", keeping(3, 0x301, 0x302, 0x303, 0x304, 0x305, 0x306), 0x304, 0x305, 0x306);
        numbers("round", keeping(3, 0x301, 0x302, 0x303, 0x304, 0x305, 0x306, 0x307), 0x307, 0x305, 0x306);
    }

    private static void completedAgainIsYoung() {
        numbers("again", keeping(3, 0x301, 0x302, 0x303, 0x301, 0x304), 0x301, 0x304, 0x303);
        numbers("last again", keeping(2, 0x301, 0x302, 0x301, 0x302, 0x303), 0x303, 0x302);
    }

    private static void wantedPageStays() {
        numbers("wanted first", keeping(2, 0x100, 0x301, 0x302, 0x303), 0x100, 0x303);
        numbers("wanted last", keeping(2, 0x301, 0x100, 0x302, 0x303), 0x303, 0x100);
        PageReceiver x = keeping(2, 0x100, 0x301);
        Sender.keys(x, 3, 0, 1);
        Sender.keep(x, 3, 2);
        Sender.keep(x, 3, 3);
        numbers("another wanted", x, 0x303, 0x301);
    }

    private static void wantedPageStaysWhereverItIs() {
        numbers("four places", keeping(4, 0x301, 0x302, 0x100, 0x303, 0x304, 0x305, 0x306, 0x307),
            0x307, 0x305, 0x100, 0x306);
        PageReceiver x = new PageReceiver(2);
        Sender.send(x, Sender.header(1, 0x00), Sender.header(2, 0x00), Sender.header(3, 0x00));
        Sender.send(x, Sender.header(0, 0x00), Sender.header(4, 0x00, 0, 0, 1, 0, ""));
        numbers("all at once", x, 0x300, 0x100);
        Check.due("order", x.kept(0, 3), 3);
    }

    private static void onePlaceHasNoWantedPage() {
        PageReceiver x = keeping(1, 0x100, 0x301);
        numbers("one place", x, 0x301);
        Check.due("shown", x.shown(), -1);
    }

    private static void heldPageIsStillWanted() {
        PageReceiver x = keeping(2, 0x100, 0x301);
        x.key(14);
        Sender.keep(x, 3, 2);
        numbers("held", x, 0x100, 0x302);
    }
}
