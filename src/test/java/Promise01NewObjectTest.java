/** Promise 1: a new object, its places, and that nothing has come. */
public final class Promise01NewObjectTest {
    private Promise01NewObjectTest() {
    }

    public static void main(String[] args) {
        places(Integer.MIN_VALUE, 1);
        places(-1, 1);
        places(0, 1);
        places(1, 1);
        places(2, 2);
        places(3, 3);
        places(4, 4);
        places(5, 4);
        places(Integer.MAX_VALUE, 4);
        nothingHasCome();
        lightIsOn();
        everyObjectIsItsOwn();
        Check.finish();
    }

    private static void places(int asked, int due) {
        PageReceiver x = new PageReceiver(asked);
        for (int page = 0x21; page <= 0x26; page++) {
            Sender.keep(x, 3, page);
        }
        for (int k = 0; k < 6; k++) {
            Check.due("places " + asked + ": has place " + k, x.kept(k, 0) != PageReceiver.NONE, k < due);
        }
        Check.due("places " + asked + ": completed", x.count(5), 6);
    }

    private static void nothingHasCome() {
        PageReceiver x = new PageReceiver(4);
        Check.due("NONE", PageReceiver.NONE, -1);
        Check.due("shown", x.shown(), -1);
        Check.due("wanted", x.viewer(0), 256);
        for (int what = 1; what <= 3; what++) {
            Check.due("viewer " + what, x.viewer(what), 0);
        }
        for (int what = 0; what <= 5; what++) {
            Check.due("count " + what, x.count(what), 0);
        }
        for (int k = 0; k < 4; k++) {
            Check.due("kept " + k, x.kept(k, 0), -1);
        }
        Check.due("bytes", x.reset(), 0);
        for (int column = 0; column < 20; column++) {
            Check.due("head " + column, x.look(0, column, 0), column < 4 ? "P100".charAt(column) : 32);
            Check.due("head's colour " + column, x.look(0, column, 1), 7);
            Check.due("head's sum " + column, x.look(0, column, 3), 0);
            Check.due("row 7, " + column, x.look(7, column, 0), 32);
            Check.due("colour " + column, x.look(7, column, 1), 7);
            Check.due("ground " + column, x.look(7, column, 2), 0);
            Check.due("sum " + column, x.look(7, column, 3), 0);
        }
    }

    private static void lightIsOn() {
        PageReceiver x = Sender.showing(1, 8, 'a');
        Check.due("flashing letter", x.look(1, 1, 0), 'a');
        Check.due("first tick", x.tick(), false);
    }

    private static void everyObjectIsItsOwn() {
        PageReceiver x = new PageReceiver(1);
        Sender.keep(x, 1, 0x00);
        PageReceiver y = new PageReceiver(1);
        Check.due("another object's page", y.shown(), -1);
        Check.due("another object's count", y.count(0), 0);
    }
}
